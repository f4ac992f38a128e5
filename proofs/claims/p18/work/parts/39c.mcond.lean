theorem wgt_0 : wgt [] = 0 := rfl
theorem wgt_hd1 {e : Nat × Nat} {W : WL} (h : (2 ≤ e.1 ∧ e.1 ≤ 6) ∨ e.1 = 10) : wgt (e :: W) = 1 + wgt W := by show wg1 e.1 + wgt W = _; rw [wg1_1 h]
theorem wgt_hd0 {e : Nat × Nat} {W : WL} (h : ¬ ((2 ≤ e.1 ∧ e.1 ≤ 6) ∨ e.1 = 10)) : wgt (e :: W) = wgt W := by show wg1 e.1 + wgt W = _; rw [wg1_0 h]; omega
theorem bot_nil (h : bot []) : False := absurd (bot_ne h) (by decide)
theorem bot_one : bot [(13, 0)] := ⟨[], rfl⟩
theorem cOps_one : cOps [(13, 0)] := cOps_cons (e := (13, 0)) ⟨by decide, by decide⟩ (fun _ h => absurd h List.not_mem_nil)
/-- the clauses read so far -/
def KL (fs f8 f9 f10 : Nat → Int32) (sm cm : Nat) : Prop := ∀ q, q < sm → ∃ fr half to : Nat, f8 q = nI fr ∧ f9 q = nI half ∧ f10 q = nI to ∧ to ≤ cm ∧ cSeg fs fr half ∧ cSeg fs half to
theorem KL_step {fs fs2 f8 f9 f10 : Nat → Int32} {sm cm half to : Nat} (h : KL fs f8 f9 f10 sm cm) (hag : ∀ k, k < cm → fs2 k = fs k) (h1 : cSeg fs2 cm half) (h2 : cSeg fs2 half to) : KL fs2 (upd f8 sm (nI cm)) (upd f9 sm (nI half)) (upd f10 sm (nI to)) (sm + 1) to := by
  have l1 := cSeg_lt h1
  have l2 := cSeg_lt h2
  intro q hq
  by_cases e : q = sm
  · subst e
    exact ⟨cm, half, to, pk_us, pk_us, pk_us, Nat.le_refl _, h1, h2⟩
  · obtain ⟨a, b, c, e1, e2, e3, e4, s1, s2⟩ := h q (by omega)
    have l3 := cSeg_lt s1
    have l4 := cSeg_lt s2
    refine ⟨a, b, c, by rw [pk_un e]; exact e1, by rw [pk_un e]; exact e2, by rw [pk_un e]; exact e3, by omega, cSeg_congr s1 (fun k hk => hag k (by omega)), cSeg_congr s2 (fun k hk => hag k (by omega))⟩
theorem dX12_endsPiece_0 : decode cX12_endsPiece 0 = .ok (.aload_n 0, 1) := by decide +kernel
theorem dX12_endsPiece_1 : decode cX12_endsPiece 1 = .ok (.invokevirtual 164, 3) := by decide +kernel
theorem dX12_endsPiece_4 : decode cX12_endsPiece 4 = .ok (.bipush 10, 2) := by decide +kernel
theorem dX12_endsPiece_6 : decode cX12_endsPiece 6 = .ok (.if_icmp .ne 33, 3) := by decide +kernel
theorem dX12_endsPiece_9 : decode cX12_endsPiece 9 = .ok (.aload_n 0, 1) := by decide +kernel
theorem dX12_endsPiece_10 : decode cX12_endsPiece 10 = .ok (.bipush 10, 2) := by decide +kernel
theorem dX12_endsPiece_12 : decode cX12_endsPiece 12 = .ok (.iconst 0, 1) := by decide +kernel
theorem dX12_endsPiece_13 : decode cX12_endsPiece 13 = .ok (.invokevirtual 167, 3) := by decide +kernel
theorem dX12_endsPiece_16 : decode cX12_endsPiece 16 = .ok (.aload_n 0, 1) := by decide +kernel
theorem dX12_endsPiece_17 : decode cX12_endsPiece 17 = .ok (.aload_n 0, 1) := by decide +kernel
theorem dX12_endsPiece_18 : decode cX12_endsPiece 18 = .ok (.getfield 161, 3) := by decide +kernel
theorem dX12_endsPiece_21 : decode cX12_endsPiece 21 = .ok (.iconst 1, 1) := by decide +kernel
theorem dX12_endsPiece_22 : decode cX12_endsPiece 22 = .ok (.isub, 1) := by decide +kernel
theorem dX12_endsPiece_23 : decode cX12_endsPiece 23 = .ok (.putfield 161, 3) := by decide +kernel
theorem dX12_endsPiece_26 : decode cX12_endsPiece 26 = .ok (.aload_n 0, 1) := by decide +kernel
theorem dX12_endsPiece_27 : decode cX12_endsPiece 27 = .ok (.aload_n 0, 1) := by decide +kernel
theorem dX12_endsPiece_28 : decode cX12_endsPiece 28 = .ok (.getfield 158, 3) := by decide +kernel
theorem dX12_endsPiece_31 : decode cX12_endsPiece 31 = .ok (.iconst 1, 1) := by decide +kernel
theorem dX12_endsPiece_32 : decode cX12_endsPiece 32 = .ok (.isub, 1) := by decide +kernel
theorem dX12_endsPiece_33 : decode cX12_endsPiece 33 = .ok (.putfield 158, 3) := by decide +kernel
theorem dX12_endsPiece_36 : decode cX12_endsPiece 36 = .ok (.goto (-36), 3) := by decide +kernel
theorem dX12_endsPiece_39 : decode cX12_endsPiece 39 = .ok (.return_, 1) := by decide +kernel
set_option maxRecDepth 20000 in
set_option maxHeartbeats 4000000 in
theorem m_endsPiece (E : xE) (l : Launch) (a : Nat → Nat) (cd : Cd) (hG : Good cd) (ws : va_W) (hW : WX (okM E a cd) ws) (tp pl le cm wt sm lm : Nat) (nu : Int32) (h0 : MO a cd ws tp pl le cm wt sm lm nu) (fs : Nat → Int32) (hfs : ws[5]? = some (iA E (a 5) 260 fs)) (fw : Nat → Int32) (hfw : ws[6]? = some (iA E (a 6) 260 fw)) (W : WL) (hwr : wR fw W wt) (c0 : Nat) (hci : CI fs c0 cm 1 W) (hco : cOps W) (hbo : bot W) (hphi : cm + wgt W ≤ 240) : xV E l yX12_endsPiece cX12_endsPiece 1 1 0 0 [.ref (a 0)] ws (fun w => WX (okM E a cd) w ∧ keeps ws w (fun q => q = 0 ∨ q = 5) ∧ (∃ (cm2 wt2 : Nat) (fs2 : Nat → Int32) (We : WL), wR fw We wt2 ∧ wt2 ≤ wt ∧ MO a cd w tp pl le cm2 wt2 sm lm nu ∧ w[5]? = some (iA E (a 5) 260 fs2) ∧ CI fs2 c0 cm2 1 We ∧ cOps We ∧ bot We ∧ cm2 + wgt We = cm + wgt W ∧ ∀ k, k < c0 → fs2 k = fs k)) := by
  refine xV_start (lv := [(0, .ref (a 0))]) RX12 (by decide) rfl (Nat.le_of_ble_eq_true rfl) rfl (fun p e s m below meth c A C hr hlk hin => ?_)
  have kp0 : keeps ws ws (fun q => q = 0 ∨ q = 5) := keeps_rf
  obtain ⟨v1, v2, v3, v4, v5, v6, v7, n8, n9, bo10, bo11, zb12, k13⟩ := h0
  have loop0 : ∀ (fu0 : Nat) (cx : Nat) (wx : Nat) (fx : Nat → Int32) (Wx : WL) (wl0 : va_W), WX (okM E a cd) wl0 → Wx.length < fu0 → MO a cd wl0 tp pl le cx wx sm lm nu → wl0[5]? = some (iA E (a 5) 260 fx) → wl0[6]? = some (iA E (a 6) 260 fw) → wR fw Wx wx → CI fx c0 cx 1 Wx → cOps Wx → bot Wx → cx + wgt Wx = cm + wgt W ∧ wx ≤ wt → (∀ k, k < c0 → fx k = fs k) → keeps ws wl0 (fun q => q = 0 ∨ q = 5) → X E p l e (xRm 1 0 0) s m ([.ref (a 0)] : List Value).toArray below meth c A 1 0 0 (MQ below (va_Qv (fun w => WX (okM E a cd) w ∧ keeps ws w (fun q => q = 0 ∨ q = 5) ∧ (∃ (cm2 wt2 : Nat) (fs2 : Nat → Int32) (We : WL), wR fw We wt2 ∧ wt2 ≤ wt ∧ MO a cd w tp pl le cm2 wt2 sm lm nu ∧ w[5]? = some (iA E (a 5) 260 fs2) ∧ CI fs2 c0 cm2 1 We ∧ cOps We ∧ bot We ∧ cm2 + wgt We = cm + wgt W ∧ ∀ k, k < c0 → fs2 k = fs k)) (xB E A) A) ([.ref (a 0)] : List Value).toArray s 0 0 A) wl0 0 [(0, .ref (a 0))] [] := by
    intro fu0
    induction fu0 with
    | zero => intro cx wx fx Wx wl0 _ q; omega
    | succ fu0 ih0 =>
      intro cx wx fx Wx wl0 hWl0 me0 iv0_0 iv0_1 iv0_2 iv0_3 iv0_4 iv0_5 iv0_6 iv0_7 iv0_8 kq0
      obtain ⟨v14, v15, v16, v17, v18, v19, v20, n21, n22, bo23, bo24, zb25, k26⟩ := iv0_0
      refine x_aload_n C dX12_endsPiece_0 rfl 0 rfl rfl ?_
      rcases Wx with _ | ⟨e, W1⟩
      · exact (bot_nil iv0_6).elim
      have hs1 := (cOps_hd iv0_5).1
      have hw1 := iv0_3.1
      have hl1 : (e :: W1).length = W1.length + 1 := rfl
      refine x_vi C (As := []) (rest := []) (m_waitTop E l a cd hG wl0 hWl0 tp pl le cx wx sm lm nu ⟨v14, v15, v16, v17, v18, v19, v20, n21, n22, ⟨by omega, by omega, by omega, by omega, by omega, by omega, by omega⟩, ⟨by omega, by omega⟩, zb25, k26⟩ fw iv0_2 (e :: W1) iv0_3) mf_X12_waitTop w_1363 0 k26 rfl rfl rfl (Nat.le_of_ble_eq_true rfl) ⟨(Nat.le_of_ble_eq_true rfl), (Nat.le_of_ble_eq_true rfl)⟩ ⟨(Nat.le_of_ble_eq_true rfl), (Nat.le_of_ble_eq_true rfl)⟩ dX12_endsPiece_1 rfl (fun r28 w29 h27 => ?_)
      obtain ⟨hW30, x31⟩ := h27
      refine x_ws hW30 ?_
      refine x_top (x31.trans (show wtop (e :: W1) = (nI (e.1)) from rfl)) ?_
      refine x_bipush C (v := 10) dX12_endsPiece_4 (by decide) rfl ?_
      refine x_icmp_ne C (tgt := 39) dX12_endsPiece_6 (by decide) rfl (fun c32 => ?_) (fun c32 => ?_)
      · skip
        have nf33 : ¬ e.1 = 10 := fun q => c32 (congrArg nI q)
        exact x_vret C hr hlk dX12_endsPiece_39 ⟨hWl0, kq0, ⟨cx, wx, fx, (e :: W1), iv0_3, by omega, ⟨v14, v15, v16, v17, v18, v19, v20, n21, n22, ⟨by omega, by omega, by omega, by omega, by omega, by omega, by omega⟩, ⟨by omega, by omega⟩, zb25, k26⟩, iv0_1, iv0_4, iv0_5, iv0_6, by omega, iv0_8⟩⟩
      · skip
        have nf34 : e.1 = 10 := (nI_eq (by omega) (by omega)).mp c32
        have hwg := wgt_hd1 (e := e) (W := W1) (Or.inr (by omega))
        have hcx := CI_le iv0_4
        refine x_aload_n C dX12_endsPiece_9 rfl 0 rfl rfl ?_
        refine x_bipush C (v := 10) dX12_endsPiece_10 (by decide) rfl ?_
        refine x_iconst C (v := 0) dX12_endsPiece_12 (by decide) rfl ?_
        refine x_vv C (As := [.int 10, .int 0]) (rest := []) (m_notes E l a cd hG wl0 hWl0 10 0 (by omega) (by omega) tp pl le cx wx sm lm nu ⟨v14, v15, v16, v17, v18, v19, v20, n21, n22, ⟨by omega, by omega, by omega, by omega, by omega, by omega, by omega⟩, ⟨by omega, by omega⟩, zb25, k26⟩ fx iv0_1 (by omega)) mf_X12_notes w_1349 0 k26 rfl rfl rfl (Nat.le_of_ble_eq_true rfl) ⟨(Nat.le_of_ble_eq_true rfl), (Nat.le_of_ble_eq_true rfl)⟩ ⟨(Nat.le_of_ble_eq_true rfl), (Nat.le_of_ble_eq_true rfl)⟩ dX12_endsPiece_13 rfl (fun w37 h35 => ?_)
        obtain ⟨hW38, kq39, x40⟩ := h35
        have k41 : w37[6]? = some (iA E (a 6) 260 fw) := keeps_at kq39 iv0_2 (by first | decide | omega | (dsimp only; omega))
        have kp42 := keeps_tr kq0 kq39 (fun q hq => by first | omega | (dsimp only at *; omega))
        obtain ⟨mo43, k44⟩ := x40
        obtain ⟨v45, v46, v47, v48, v49, v50, v51, n52, n53, bo54, bo55, zb56, k57⟩ := mo43
        refine x_aload_n C dX12_endsPiece_16 rfl 0 rfl rfl ?_
        refine x_aload_n C dX12_endsPiece_17 rfl 0 rfl rfl ?_
        refine x_get C (ci := 11) (k := 11) 0 k57 rfl in_X12 (by decide) w_1129 rfl dX12_endsPiece_18 rfl ?_
        refine x_iconst C (v := 1) dX12_endsPiece_21 (by decide) rfl ?_
        refine x_isub C (v := (nI (wx - 1))) dX12_endsPiece_22 (pk_sub (a := wx) (b := 1) (by omega)) rfl ?_
        obtain ⟨w58, hw59⟩ : ∃ w : va_W, w = List.set w37 0 (ob (a 0) 11 [.ref (a 1), .ref (a 2), .ref (a 3), .ref (a 4), .int (nI tp), .int (nI pl), .int (nI le), .int v45, .int nu, .int v46, .int (nI (cx + 1)), .int (nI (wx - 1)), .int (nI sm), .int (nI (cd.2.2.2.2.2)), .ref (a 5), .ref (a 6), .ref (a 7), .ref (a 8), .ref (a 9), .ref (a 10), .ref (a 11), .ref (a 12), .ref (a 13), .ref (a 14), .ref (a 15), .ref (a 16), .ref (a 17), .int (nI lm), .ref (a 18), .ref (a 19), .ref (a 20), .ref (a 21), .int v47, .int v48, .int v49, .int v50, .int (nI n52), .int (nI n53), .ref (a 22), .ref (a 23), .ref (a 24), .ref (a 25), .ref (a 26), .ref (a 27), .ref (a 28), .ref (a 29), .ref (a 30), .int v51]) := ⟨_, rfl⟩
        refine x_put C (ci := 11) (k := 11) (ty := .int) 0 k57 rfl in_X12 tyX12 tyX12_ok nmX12 (by decide) w_1129 rfl rfl rfl rfl (Nat.le_of_ble_eq_true rfl) hw59.symm dX12_endsPiece_23 rfl ?_
        have hW60 : WX (okM E a cd) w58 := by rw [hw59]; exact hW38.set (k := 0) rfl ⟨tp, pl, le, v45, nu, v46, (cx + 1), (wx - 1), sm, lm, v47, v48, v49, v50, n52, n53, v51, by omega, by omega, by omega, by omega, by omega, by omega, by omega, by omega, by omega, zb56, rfl⟩
        have k61 : w58[6]? = some (iA E (a 6) 260 fw) := by rw [hw59]; exact set_ne k41 (by decide)
        have k62 : w58[0]? = some (ob (a 0) 11 [.ref (a 1), .ref (a 2), .ref (a 3), .ref (a 4), .int (nI tp), .int (nI pl), .int (nI le), .int v45, .int nu, .int v46, .int (nI (cx + 1)), .int (nI (wx - 1)), .int (nI sm), .int (nI (cd.2.2.2.2.2)), .ref (a 5), .ref (a 6), .ref (a 7), .ref (a 8), .ref (a 9), .ref (a 10), .ref (a 11), .ref (a 12), .ref (a 13), .ref (a 14), .ref (a 15), .ref (a 16), .ref (a 17), .int (nI lm), .ref (a 18), .ref (a 19), .ref (a 20), .ref (a 21), .int v47, .int v48, .int v49, .int v50, .int (nI n52), .int (nI n53), .ref (a 22), .ref (a 23), .ref (a 24), .ref (a 25), .ref (a 26), .ref (a 27), .ref (a 28), .ref (a 29), .ref (a 30), .int v51]) := by rw [hw59]; exact set_eq k57
        have k63 : w58[5]? = some (iA E (a 5) 260 (upd fx cx (nI (1048576 * 10 + 0)))) := by rw [hw59]; exact set_ne k44 (by decide)
        have kp64 := keeps_set kp42 hw59 (by first | exact rfl | decide | omega | (dsimp only; omega))
        refine x_aload_n C dX12_endsPiece_26 rfl 0 rfl rfl ?_
        refine x_aload_n C dX12_endsPiece_27 rfl 0 rfl rfl ?_
        refine x_get C (ci := 11) (k := 9) 0 k62 rfl in_X12 (by decide) w_1127 rfl dX12_endsPiece_28 rfl ?_
        refine x_iconst C (v := 1) dX12_endsPiece_31 (by decide) rfl ?_
        refine x_isub C (v := (v46 - (1 : Int32))) dX12_endsPiece_32 rfl rfl ?_
        refine x_any (fun v65 => ?_)
        obtain ⟨w66, hw67⟩ : ∃ w : va_W, w = List.set w58 0 (ob (a 0) 11 [.ref (a 1), .ref (a 2), .ref (a 3), .ref (a 4), .int (nI tp), .int (nI pl), .int (nI le), .int v45, .int nu, .int v65, .int (nI (cx + 1)), .int (nI (wx - 1)), .int (nI sm), .int (nI (cd.2.2.2.2.2)), .ref (a 5), .ref (a 6), .ref (a 7), .ref (a 8), .ref (a 9), .ref (a 10), .ref (a 11), .ref (a 12), .ref (a 13), .ref (a 14), .ref (a 15), .ref (a 16), .ref (a 17), .int (nI lm), .ref (a 18), .ref (a 19), .ref (a 20), .ref (a 21), .int v47, .int v48, .int v49, .int v50, .int (nI n52), .int (nI n53), .ref (a 22), .ref (a 23), .ref (a 24), .ref (a 25), .ref (a 26), .ref (a 27), .ref (a 28), .ref (a 29), .ref (a 30), .int v51]) := ⟨_, rfl⟩
        refine x_put C (ci := 11) (k := 9) (ty := .int) 0 k62 rfl in_X12 tyX12 tyX12_ok nmX12 (by decide) w_1127 rfl rfl rfl rfl (Nat.le_of_ble_eq_true rfl) hw67.symm dX12_endsPiece_33 rfl ?_
        have hW68 : WX (okM E a cd) w66 := by rw [hw67]; exact hW60.set (k := 0) rfl ⟨tp, pl, le, v45, nu, v65, (cx + 1), (wx - 1), sm, lm, v47, v48, v49, v50, n52, n53, v51, by omega, by omega, by omega, by omega, by omega, by omega, by omega, by omega, by omega, zb56, rfl⟩
        have k69 : w66[6]? = some (iA E (a 6) 260 fw) := by rw [hw67]; exact set_ne k61 (by decide)
        have k70 : w66[0]? = some (ob (a 0) 11 [.ref (a 1), .ref (a 2), .ref (a 3), .ref (a 4), .int (nI tp), .int (nI pl), .int (nI le), .int v45, .int nu, .int v65, .int (nI (cx + 1)), .int (nI (wx - 1)), .int (nI sm), .int (nI (cd.2.2.2.2.2)), .ref (a 5), .ref (a 6), .ref (a 7), .ref (a 8), .ref (a 9), .ref (a 10), .ref (a 11), .ref (a 12), .ref (a 13), .ref (a 14), .ref (a 15), .ref (a 16), .ref (a 17), .int (nI lm), .ref (a 18), .ref (a 19), .ref (a 20), .ref (a 21), .int v47, .int v48, .int v49, .int v50, .int (nI n52), .int (nI n53), .ref (a 22), .ref (a 23), .ref (a 24), .ref (a 25), .ref (a 26), .ref (a 27), .ref (a 28), .ref (a 29), .ref (a 30), .int v51]) := by rw [hw67]; exact set_eq k62
        have k71 : w66[5]? = some (iA E (a 5) 260 (upd fx cx (nI (1048576 * 10 + 0)))) := by rw [hw67]; exact set_ne k63 (by decide)
        have kp72 := keeps_set kp64 hw67 (by first | exact rfl | decide | omega | (dsimp only; omega))
        refine x_goto C (tgt := 0) dX12_endsPiece_36 (by decide) ?_
        refine x_lv (lv1 := [(0, .ref (a 0))]) [0] rfl ?_
        exact ih0 (cx + 1) (wx - 1) ((upd fx cx (nI (1048576 * 10 + 0)))) W1 w66 hW68 (by omega) ⟨v45, v65, v47, v48, v49, v50, v51, n52, n53, ⟨by omega, by omega, by omega, by omega, by omega, by omega, by omega⟩, ⟨by omega, by omega⟩, zb56, k70⟩ k71 k69 iv0_3.2.2.2.2 (CI_pop (e := e) (CI_note (op := 10) (v := 0) (h' := 1) iv0_4 (by omega) (by omega) (by omega) (Or.inr (Or.inr (Or.inl ⟨rfl, Nat.le_refl _, rfl⟩)))) (nJ ⟨by omega, by omega⟩)) (cOps_hd iv0_5).2 (bot_hd iv0_6 (by omega)) (by omega) (ag_upd iv0_8 (by omega)) kp72
  refine x_lv (lv1 := [(0, .ref (a 0))]) [0] rfl ?_
  exact loop0 _ cm wt fs W ws hW (Nat.lt_succ_self _) ⟨v1, v2, v3, v4, v5, v6, v7, n8, n9, ⟨by omega, by omega, by omega, by omega, by omega, by omega, by omega⟩, ⟨by omega, by omega⟩, zb12, k13⟩ hfs hfw hwr hci hco hbo ⟨rfl, Nat.le_refl _⟩ (fun _ _ => rfl) kp0
theorem dX12_lands_0 : decode cX12_lands 0 = .ok (.aload_n 0, 1) := by decide +kernel
theorem dX12_lands_1 : decode cX12_lands 1 = .ok (.invokevirtual 164, 3) := by decide +kernel
theorem dX12_lands_4 : decode cX12_lands 4 = .ok (.bipush 11, 2) := by decide +kernel
theorem dX12_lands_6 : decode cX12_lands 6 = .ok (.if_icmp .eq 16, 3) := by decide +kernel
theorem dX12_lands_9 : decode cX12_lands 9 = .ok (.iload_n 1, 1) := by decide +kernel
theorem dX12_lands_10 : decode cX12_lands 10 = .ok (.ifCond .eq 63, 3) := by decide +kernel
theorem dX12_lands_22 : decode cX12_lands 22 = .ok (.aload_n 0, 1) := by decide +kernel
theorem dX12_lands_23 : decode cX12_lands 23 = .ok (.getfield 26, 3) := by decide +kernel
theorem dX12_lands_26 : decode cX12_lands 26 = .ok (.aload_n 0, 1) := by decide +kernel
theorem dX12_lands_27 : decode cX12_lands 27 = .ok (.getfield 161, 3) := by decide +kernel
theorem dX12_lands_30 : decode cX12_lands 30 = .ok (.iconst 1, 1) := by decide +kernel
theorem dX12_lands_31 : decode cX12_lands 31 = .ok (.isub, 1) := by decide +kernel
theorem dX12_lands_32 : decode cX12_lands 32 = .ok (.iaload, 1) := by decide +kernel
theorem dX12_lands_33 : decode cX12_lands 33 = .ok (.ldc 157, 2) := by decide +kernel
theorem dX12_lands_35 : decode cX12_lands 35 = .ok (.irem, 1) := by decide +kernel
theorem dX12_lands_36 : decode cX12_lands 36 = .ok (.istore_n 2, 1) := by decide +kernel
theorem dX12_lands_37 : decode cX12_lands 37 = .ok (.aload_n 0, 1) := by decide +kernel
theorem dX12_lands_38 : decode cX12_lands 38 = .ok (.getfield 23, 3) := by decide +kernel
theorem dX12_lands_41 : decode cX12_lands 41 = .ok (.iload_n 2, 1) := by decide +kernel
theorem dX12_lands_42 : decode cX12_lands 42 = .ok (.ldc 157, 2) := by decide +kernel
theorem dX12_lands_44 : decode cX12_lands 44 = .ok (.aload_n 0, 1) := by decide +kernel
theorem dX12_lands_45 : decode cX12_lands 45 = .ok (.getfield 23, 3) := by decide +kernel
theorem dX12_lands_48 : decode cX12_lands 48 = .ok (.iload_n 2, 1) := by decide +kernel
theorem dX12_lands_49 : decode cX12_lands 49 = .ok (.iaload, 1) := by decide +kernel
theorem dX12_lands_50 : decode cX12_lands 50 = .ok (.ldc 157, 2) := by decide +kernel
theorem dX12_lands_52 : decode cX12_lands 52 = .ok (.idiv, 1) := by decide +kernel
theorem dX12_lands_53 : decode cX12_lands 53 = .ok (.imul, 1) := by decide +kernel
theorem dX12_lands_54 : decode cX12_lands 54 = .ok (.aload_n 0, 1) := by decide +kernel
theorem dX12_lands_55 : decode cX12_lands 55 = .ok (.getfield 154, 3) := by decide +kernel
theorem dX12_lands_58 : decode cX12_lands 58 = .ok (.iadd, 1) := by decide +kernel
theorem dX12_lands_59 : decode cX12_lands 59 = .ok (.iastore, 1) := by decide +kernel
theorem dX12_lands_60 : decode cX12_lands 60 = .ok (.aload_n 0, 1) := by decide +kernel
theorem dX12_lands_61 : decode cX12_lands 61 = .ok (.aload_n 0, 1) := by decide +kernel
theorem dX12_lands_62 : decode cX12_lands 62 = .ok (.getfield 161, 3) := by decide +kernel
theorem dX12_lands_65 : decode cX12_lands 65 = .ok (.iconst 1, 1) := by decide +kernel
theorem dX12_lands_66 : decode cX12_lands 66 = .ok (.isub, 1) := by decide +kernel
theorem dX12_lands_67 : decode cX12_lands 67 = .ok (.putfield 161, 3) := by decide +kernel
theorem dX12_lands_70 : decode cX12_lands 70 = .ok (.goto (-70), 3) := by decide +kernel
theorem dX12_lands_73 : decode cX12_lands 73 = .ok (.return_, 1) := by decide +kernel
set_option maxRecDepth 20000 in
set_option maxHeartbeats 4000000 in
theorem m_lands0 (E : xE) (l : Launch) (a : Nat → Nat) (cd : Cd) (hG : Good cd) (ws : va_W) (hW : WX (okM E a cd) ws) (tp pl le cm wt sm lm : Nat) (nu : Int32) (h0 : MO a cd ws tp pl le cm wt sm lm nu) (fs : Nat → Int32) (hfs : ws[5]? = some (iA E (a 5) 260 fs)) (fw : Nat → Int32) (hfw : ws[6]? = some (iA E (a 6) 260 fw)) (W : WL) (hwr : wR fw W wt) (c0 : Nat) (hci : CI fs c0 cm 1 W) (hco : cOps W) (hbo : bot W) (hphi : cm + wgt W ≤ 240) : xV E l yX12_lands cX12_lands 3 1 0 0 [.ref (a 0), .int 0] ws (fun w => WX (okM E a cd) w ∧ keeps ws w (fun q => q = 0 ∨ q = 5) ∧ (∃ (wt2 : Nat) (fs2 : Nat → Int32) (We : WL), wR fw We wt2 ∧ wt2 ≤ wt ∧ MO a cd w tp pl le cm wt2 sm lm nu ∧ w[5]? = some (iA E (a 5) 260 fs2) ∧ CI fs2 c0 cm 1 We ∧ cOps We ∧ bot We ∧ wgt We = wgt W ∧ (∀ k, k < c0 → fs2 k = fs k))) := by
  refine xV_start (lv := [(0, .ref (a 0)), (1, .int 0)]) RX12 (by decide) rfl (Nat.le_of_ble_eq_true rfl) rfl (fun p e s m below meth c A C hr hlk hin => ?_)
  have kp0 : keeps ws ws (fun q => q = 0 ∨ q = 5) := keeps_rf
  obtain ⟨v1, v2, v3, v4, v5, v6, v7, n8, n9, bo10, bo11, zb12, k13⟩ := h0
  have loop0 : ∀ (fu0 : Nat) (wx : Nat) (fx : Nat → Int32) (Wx : WL) (wl0 : va_W), WX (okM E a cd) wl0 → Wx.length < fu0 → MO a cd wl0 tp pl le cm wx sm lm nu → wl0[5]? = some (iA E (a 5) 260 fx) → wl0[6]? = some (iA E (a 6) 260 fw) → wR fw Wx wx → CI fx c0 cm 1 Wx → cOps Wx → bot Wx → wgt Wx = wgt W ∧ wx ≤ wt → (∀ k, k < c0 → fx k = fs k) → keeps ws wl0 (fun q => q = 0 ∨ q = 5) → X E p l e (xRm 1 0 0) s m ([.ref (a 0), .int 0] : List Value).toArray below meth c A 3 0 0 (MQ below (va_Qv (fun w => WX (okM E a cd) w ∧ keeps ws w (fun q => q = 0 ∨ q = 5) ∧ (∃ (wt2 : Nat) (fs2 : Nat → Int32) (We : WL), wR fw We wt2 ∧ wt2 ≤ wt ∧ MO a cd w tp pl le cm wt2 sm lm nu ∧ w[5]? = some (iA E (a 5) 260 fs2) ∧ CI fs2 c0 cm 1 We ∧ cOps We ∧ bot We ∧ wgt We = wgt W ∧ (∀ k, k < c0 → fs2 k = fs k))) (xB E A) A) ([.ref (a 0), .int 0] : List Value).toArray s 0 0 A) wl0 0 [(0, .ref (a 0)), (1, .int 0)] [] := by
    intro fu0
    induction fu0 with
    | zero => intro wx fx Wx wl0 _ q; omega
    | succ fu0 ih0 =>
      intro wx fx Wx wl0 hWl0 me0 iv0_0 iv0_1 iv0_2 iv0_3 iv0_4 iv0_5 iv0_6 iv0_7 iv0_8 kq0
      obtain ⟨v14, v15, v16, v17, v18, v19, v20, n21, n22, bo23, bo24, zb25, k26⟩ := iv0_0
      refine x_aload_n C dX12_lands_0 rfl 0 rfl rfl ?_
      rcases Wx with _ | ⟨e, W1⟩
      · exact (bot_nil iv0_6).elim
      have hs1 := (cOps_hd iv0_5).1
      have hw1 := iv0_3.1
      have hl1 : (e :: W1).length = W1.length + 1 := rfl
      refine x_vi C (As := []) (rest := []) (m_waitTop E l a cd hG wl0 hWl0 tp pl le cm wx sm lm nu ⟨v14, v15, v16, v17, v18, v19, v20, n21, n22, ⟨by omega, by omega, by omega, by omega, by omega, by omega, by omega⟩, ⟨by omega, by omega⟩, zb25, k26⟩ fw iv0_2 (e :: W1) iv0_3) mf_X12_waitTop w_1363 0 k26 rfl rfl rfl (Nat.le_of_ble_eq_true rfl) ⟨(Nat.le_of_ble_eq_true rfl), (Nat.le_of_ble_eq_true rfl)⟩ ⟨(Nat.le_of_ble_eq_true rfl), (Nat.le_of_ble_eq_true rfl)⟩ dX12_lands_1 rfl (fun r28 w29 h27 => ?_)
      obtain ⟨hW30, x31⟩ := h27
      refine x_ws hW30 ?_
      refine x_top (x31.trans (show wtop (e :: W1) = (nI (e.1)) from rfl)) ?_
      refine x_bipush C (v := 11) dX12_lands_4 (by decide) rfl ?_
      refine x_icmp_eq C (tgt := 22) dX12_lands_6 (by decide) rfl (fun c32 => ?_) (fun c32 => ?_)
      · skip
        have nf33 : e.1 = 11 := (nI_eq (by omega) (by omega)).mp c32
        have hJ : isJ e := by show e.1 = 11 ∨ e.1 = 12; omega
        obtain ⟨hp1, hp2, op, v, ho, hat⟩ := CI_at iv0_4 hJ
        obtain ⟨a1, a2, a3⟩ := id hat
        have hwg := wgt_hd0 (e := e) (W := W1) (by omega)
        refine x_aload_n C dX12_lands_22 rfl 0 rfl rfl ?_
        refine x_get C (ci := 11) (k := 15) 0 k26 rfl in_X12 (by decide) w_1133 rfl dX12_lands_23 rfl ?_
        refine x_aload_n C dX12_lands_26 rfl 0 rfl rfl ?_
        refine x_get C (ci := 11) (k := 11) 0 k26 rfl in_X12 (by decide) w_1129 rfl dX12_lands_27 rfl ?_
        refine x_iconst C (v := 1) dX12_lands_30 (by decide) rfl ?_
        refine x_isub C (v := (nI (wx - 1))) dX12_lands_31 (pk_sub (a := wx) (b := 1) (by omega)) rfl ?_
        refine x_ialk C (v := (fw (wx - 1))) (wx - 1) (nI_clamp (by omega)) (nI_pos (by omega)) (by omega) 6 iv0_2 rfl dX12_lands_32 rfl ?_
        refine x_top iv0_3.2.1 ?_
        refine x_ldc C w_1340 dX12_lands_33 rfl ?_
        refine x_irem C (v := (nI (e.2))) dX12_lands_35 (by decide) (remW (by omega) iv0_3.2.2.2.1) rfl ?_
        refine x_istore_n C (lv' := [(2, .int (nI (e.2))), (0, .ref (a 0)), (1, .int 0)]) dX12_lands_36 rfl (by decide) rfl rfl ?_
        refine x_aload_n C dX12_lands_37 rfl 1 rfl rfl ?_
        refine x_get C (ci := 11) (k := 14) 0 k26 rfl in_X12 (by decide) w_1132 rfl dX12_lands_38 rfl ?_
        refine x_iload_n C dX12_lands_41 rfl 0 rfl rfl ?_
        refine x_ldc C w_1340 dX12_lands_42 rfl ?_
        refine x_aload_n C dX12_lands_44 rfl 1 rfl rfl ?_
        refine x_get C (ci := 11) (k := 14) 0 k26 rfl in_X12 (by decide) w_1132 rfl dX12_lands_45 rfl ?_
        refine x_iload_n C dX12_lands_48 rfl 0 rfl rfl ?_
        refine x_ialk C (v := (fx (e.2))) (e.2) (nI_clamp (by omega)) (nI_pos (by omega)) (by omega) 5 iv0_1 rfl dX12_lands_49 rfl ?_
        refine x_top a3 ?_
        refine x_ldc C w_1340 dX12_lands_50 rfl ?_
        refine x_idiv C (v := (nI op)) dX12_lands_52 (by decide) (divU a1 a2) rfl ?_
        refine x_imul C (v := (nI (1048576 * op))) dX12_lands_53 (pk_mul 1048576 op) rfl ?_
        refine x_aload_n C dX12_lands_54 rfl 1 rfl rfl ?_
        refine x_get C (ci := 11) (k := 10) 0 k26 rfl in_X12 (by decide) w_1128 rfl dX12_lands_55 rfl ?_
        refine x_iadd C (v := (nI ((1048576 * op) + cm))) dX12_lands_58 (nI_add (1048576 * op) cm) rfl ?_
        obtain ⟨w34, hw35⟩ : ∃ w : va_W, w = List.set wl0 5 (iA E (a 5) 260 (upd fx (e.2) (nI ((1048576 * op) + cm)))) := ⟨_, rfl⟩
        refine x_iask C (e.2) (nI_clamp (by omega)) (nI_pos (by omega)) (by omega) 5 iv0_1 hw35.symm dX12_lands_59 rfl ?_
        have hW36 : WX (okM E a cd) w34 := by rw [hw35]; exact hWl0.set (k := 5) rfl ⟨_, rfl⟩
        have k37 : w34[0]? = some (ob (a 0) 11 [.ref (a 1), .ref (a 2), .ref (a 3), .ref (a 4), .int (nI tp), .int (nI pl), .int (nI le), .int v14, .int nu, .int v15, .int (nI cm), .int (nI wx), .int (nI sm), .int (nI (cd.2.2.2.2.2)), .ref (a 5), .ref (a 6), .ref (a 7), .ref (a 8), .ref (a 9), .ref (a 10), .ref (a 11), .ref (a 12), .ref (a 13), .ref (a 14), .ref (a 15), .ref (a 16), .ref (a 17), .int (nI lm), .ref (a 18), .ref (a 19), .ref (a 20), .ref (a 21), .int v16, .int v17, .int v18, .int v19, .int (nI n21), .int (nI n22), .ref (a 22), .ref (a 23), .ref (a 24), .ref (a 25), .ref (a 26), .ref (a 27), .ref (a 28), .ref (a 29), .ref (a 30), .int v20]) := by rw [hw35]; exact set_ne k26 (by decide)
        have k38 : w34[5]? = some (iA E (a 5) 260 (upd fx (e.2) (nI ((1048576 * op) + cm)))) := by rw [hw35]; exact set_eq iv0_1
        have k39 : w34[6]? = some (iA E (a 6) 260 fw) := by rw [hw35]; exact set_ne iv0_2 (by decide)
        have kp40 := keeps_set kq0 hw35 (by first | exact rfl | decide | omega | (dsimp only; omega))
        refine x_aload_n C dX12_lands_60 rfl 1 rfl rfl ?_
        refine x_aload_n C dX12_lands_61 rfl 1 rfl rfl ?_
        refine x_get C (ci := 11) (k := 11) 0 k37 rfl in_X12 (by decide) w_1129 rfl dX12_lands_62 rfl ?_
        refine x_iconst C (v := 1) dX12_lands_65 (by decide) rfl ?_
        refine x_isub C (v := (nI (wx - 1))) dX12_lands_66 (pk_sub (a := wx) (b := 1) (by omega)) rfl ?_
        obtain ⟨w41, hw42⟩ : ∃ w : va_W, w = List.set w34 0 (ob (a 0) 11 [.ref (a 1), .ref (a 2), .ref (a 3), .ref (a 4), .int (nI tp), .int (nI pl), .int (nI le), .int v14, .int nu, .int v15, .int (nI cm), .int (nI (wx - 1)), .int (nI sm), .int (nI (cd.2.2.2.2.2)), .ref (a 5), .ref (a 6), .ref (a 7), .ref (a 8), .ref (a 9), .ref (a 10), .ref (a 11), .ref (a 12), .ref (a 13), .ref (a 14), .ref (a 15), .ref (a 16), .ref (a 17), .int (nI lm), .ref (a 18), .ref (a 19), .ref (a 20), .ref (a 21), .int v16, .int v17, .int v18, .int v19, .int (nI n21), .int (nI n22), .ref (a 22), .ref (a 23), .ref (a 24), .ref (a 25), .ref (a 26), .ref (a 27), .ref (a 28), .ref (a 29), .ref (a 30), .int v20]) := ⟨_, rfl⟩
        refine x_put C (ci := 11) (k := 11) (ty := .int) 0 k37 rfl in_X12 tyX12 tyX12_ok nmX12 (by decide) w_1129 rfl rfl rfl rfl (Nat.le_of_ble_eq_true rfl) hw42.symm dX12_lands_67 rfl ?_
        have hW43 : WX (okM E a cd) w41 := by rw [hw42]; exact hW36.set (k := 0) rfl ⟨tp, pl, le, v14, nu, v15, cm, (wx - 1), sm, lm, v16, v17, v18, v19, n21, n22, v20, by omega, by omega, by omega, by omega, by omega, by omega, by omega, by omega, by omega, zb25, rfl⟩
        have k44 : w41[0]? = some (ob (a 0) 11 [.ref (a 1), .ref (a 2), .ref (a 3), .ref (a 4), .int (nI tp), .int (nI pl), .int (nI le), .int v14, .int nu, .int v15, .int (nI cm), .int (nI (wx - 1)), .int (nI sm), .int (nI (cd.2.2.2.2.2)), .ref (a 5), .ref (a 6), .ref (a 7), .ref (a 8), .ref (a 9), .ref (a 10), .ref (a 11), .ref (a 12), .ref (a 13), .ref (a 14), .ref (a 15), .ref (a 16), .ref (a 17), .int (nI lm), .ref (a 18), .ref (a 19), .ref (a 20), .ref (a 21), .int v16, .int v17, .int v18, .int v19, .int (nI n21), .int (nI n22), .ref (a 22), .ref (a 23), .ref (a 24), .ref (a 25), .ref (a 26), .ref (a 27), .ref (a 28), .ref (a 29), .ref (a 30), .int v20]) := by rw [hw42]; exact set_eq k37
        have k45 : w41[5]? = some (iA E (a 5) 260 (upd fx (e.2) (nI ((1048576 * op) + cm)))) := by rw [hw42]; exact set_ne k38 (by decide)
        have k46 : w41[6]? = some (iA E (a 6) 260 fw) := by rw [hw42]; exact set_ne k39 (by decide)
        have kp47 := keeps_set kp40 hw42 (by first | exact rfl | decide | omega | (dsimp only; omega))
        refine x_goto C (tgt := 0) dX12_lands_70 (by decide) ?_
        refine x_lv (lv1 := [(0, .ref (a 0)), (1, .int 0)]) [1, 2] rfl ?_
        exact ih0 (wx - 1) ((upd fx (e.2) (nI ((1048576 * op) + cm)))) W1 w41 hW43 (by omega) ⟨v14, v15, v16, v17, v18, v19, v20, n21, n22, ⟨by omega, by omega, by omega, by omega, by omega, by omega, by omega⟩, ⟨by omega, by omega⟩, zb25, k44⟩ k45 k46 iv0_3.2.2.2.2 (CI_land iv0_4 hJ ho hat (by omega)) (cOps_hd iv0_5).2 (bot_hd iv0_6 (by omega)) (by omega) (ag_upd iv0_8 hp1) kp47
      · skip
        have nf48 : ¬ e.1 = 11 := fun q => c32 (congrArg nI q)
        refine x_iload_n C dX12_lands_9 rfl 1 rfl rfl ?_
        refine x_if_eq C (tgt := 73) dX12_lands_10 (by decide) rfl (fun _ => ?_) (fun h => absurd h (by decide))
        exact x_vret C hr hlk dX12_lands_73 ⟨hWl0, kq0, ⟨wx, fx, (e :: W1), iv0_3, by omega, ⟨v14, v15, v16, v17, v18, v19, v20, n21, n22, ⟨by omega, by omega, by omega, by omega, by omega, by omega, by omega⟩, ⟨by omega, by omega⟩, zb25, k26⟩, iv0_1, iv0_4, iv0_5, iv0_6, by omega, iv0_8⟩⟩
  refine x_lv (lv1 := [(0, .ref (a 0)), (1, .int 0)]) [0, 1] rfl ?_
  exact loop0 _ wt fs W ws hW (Nat.lt_succ_self _) ⟨v1, v2, v3, v4, v5, v6, v7, n8, n9, ⟨by omega, by omega, by omega, by omega, by omega, by omega, by omega⟩, ⟨by omega, by omega⟩, zb12, k13⟩ hfs hfw hwr hci hco hbo ⟨rfl, Nat.le_refl _⟩ (fun _ _ => rfl) kp0
theorem dX12_lands_13 : decode cX12_lands 13 = .ok (.aload_n 0, 1) := by decide +kernel
theorem dX12_lands_14 : decode cX12_lands 14 = .ok (.invokevirtual 164, 3) := by decide +kernel
theorem dX12_lands_17 : decode cX12_lands 17 = .ok (.bipush 12, 2) := by decide +kernel
theorem dX12_lands_19 : decode cX12_lands 19 = .ok (.if_icmp .ne 54, 3) := by decide +kernel
set_option maxRecDepth 20000 in
set_option maxHeartbeats 4000000 in
theorem m_lands1 (E : xE) (l : Launch) (a : Nat → Nat) (cd : Cd) (hG : Good cd) (ws : va_W) (hW : WX (okM E a cd) ws) (tp pl le cm wt sm lm : Nat) (nu : Int32) (h0 : MO a cd ws tp pl le cm wt sm lm nu) (fs : Nat → Int32) (hfs : ws[5]? = some (iA E (a 5) 260 fs)) (fw : Nat → Int32) (hfw : ws[6]? = some (iA E (a 6) 260 fw)) (W : WL) (hwr : wR fw W wt) (c0 : Nat) (hci : CI fs c0 cm 1 W) (hco : cOps W) (hbo : bot W) (hphi : cm + wgt W ≤ 240) : xV E l yX12_lands cX12_lands 3 1 0 0 [.ref (a 0), .int 1] ws (fun w => WX (okM E a cd) w ∧ keeps ws w (fun q => q = 0 ∨ q = 5) ∧ (∃ (wt2 : Nat) (fs2 : Nat → Int32) (We : WL), wR fw We wt2 ∧ wt2 ≤ wt ∧ MO a cd w tp pl le cm wt2 sm lm nu ∧ w[5]? = some (iA E (a 5) 260 fs2) ∧ CI fs2 c0 cm 1 We ∧ cOps We ∧ bot We ∧ wgt We = wgt W ∧ (∀ k, k < c0 → fs2 k = fs k) ∧ ∀ (e : Nat × Nat) (W1 : WL), We = e :: W1 → ¬ isJ e)) := by
  refine xV_start (lv := [(0, .ref (a 0)), (1, .int 1)]) RX12 (by decide) rfl (Nat.le_of_ble_eq_true rfl) rfl (fun p e s m below meth c A C hr hlk hin => ?_)
  have kp0 : keeps ws ws (fun q => q = 0 ∨ q = 5) := keeps_rf
  obtain ⟨v1, v2, v3, v4, v5, v6, v7, n8, n9, bo10, bo11, zb12, k13⟩ := h0
  have loop0 : ∀ (fu0 : Nat) (wx : Nat) (fx : Nat → Int32) (Wx : WL) (wl0 : va_W), WX (okM E a cd) wl0 → Wx.length < fu0 → MO a cd wl0 tp pl le cm wx sm lm nu → wl0[5]? = some (iA E (a 5) 260 fx) → wl0[6]? = some (iA E (a 6) 260 fw) → wR fw Wx wx → CI fx c0 cm 1 Wx → cOps Wx → bot Wx → wgt Wx = wgt W ∧ wx ≤ wt → (∀ k, k < c0 → fx k = fs k) → keeps ws wl0 (fun q => q = 0 ∨ q = 5) → X E p l e (xRm 1 0 0) s m ([.ref (a 0), .int 1] : List Value).toArray below meth c A 3 0 0 (MQ below (va_Qv (fun w => WX (okM E a cd) w ∧ keeps ws w (fun q => q = 0 ∨ q = 5) ∧ (∃ (wt2 : Nat) (fs2 : Nat → Int32) (We : WL), wR fw We wt2 ∧ wt2 ≤ wt ∧ MO a cd w tp pl le cm wt2 sm lm nu ∧ w[5]? = some (iA E (a 5) 260 fs2) ∧ CI fs2 c0 cm 1 We ∧ cOps We ∧ bot We ∧ wgt We = wgt W ∧ (∀ k, k < c0 → fs2 k = fs k) ∧ ∀ (e : Nat × Nat) (W1 : WL), We = e :: W1 → ¬ isJ e)) (xB E A) A) ([.ref (a 0), .int 1] : List Value).toArray s 0 0 A) wl0 0 [(0, .ref (a 0)), (1, .int 1)] [] := by
    intro fu0
    induction fu0 with
    | zero => intro wx fx Wx wl0 _ q; omega
    | succ fu0 ih0 =>
      intro wx fx Wx wl0 hWl0 me0 iv0_0 iv0_1 iv0_2 iv0_3 iv0_4 iv0_5 iv0_6 iv0_7 iv0_8 kq0
      obtain ⟨v14, v15, v16, v17, v18, v19, v20, n21, n22, bo23, bo24, zb25, k26⟩ := iv0_0
      refine x_aload_n C dX12_lands_0 rfl 0 rfl rfl ?_
      rcases Wx with _ | ⟨e, W1⟩
      · exact (bot_nil iv0_6).elim
      have hs1 := (cOps_hd iv0_5).1
      have hw1 := iv0_3.1
      have hl1 : (e :: W1).length = W1.length + 1 := rfl
      refine x_vi C (As := []) (rest := []) (m_waitTop E l a cd hG wl0 hWl0 tp pl le cm wx sm lm nu ⟨v14, v15, v16, v17, v18, v19, v20, n21, n22, ⟨by omega, by omega, by omega, by omega, by omega, by omega, by omega⟩, ⟨by omega, by omega⟩, zb25, k26⟩ fw iv0_2 (e :: W1) iv0_3) mf_X12_waitTop w_1363 0 k26 rfl rfl rfl (Nat.le_of_ble_eq_true rfl) ⟨(Nat.le_of_ble_eq_true rfl), (Nat.le_of_ble_eq_true rfl)⟩ ⟨(Nat.le_of_ble_eq_true rfl), (Nat.le_of_ble_eq_true rfl)⟩ dX12_lands_1 rfl (fun r28 w29 h27 => ?_)
      obtain ⟨hW30, x31⟩ := h27
      refine x_ws hW30 ?_
      refine x_top (x31.trans (show wtop (e :: W1) = (nI (e.1)) from rfl)) ?_
      refine x_bipush C (v := 11) dX12_lands_4 (by decide) rfl ?_
      refine x_icmp_eq C (tgt := 22) dX12_lands_6 (by decide) rfl (fun c32 => ?_) (fun c32 => ?_)
      · skip
        have nf33 : e.1 = 11 := (nI_eq (by omega) (by omega)).mp c32
        have hJ : isJ e := by show e.1 = 11 ∨ e.1 = 12; omega
        obtain ⟨hp1, hp2, op, v, ho, hat⟩ := CI_at iv0_4 hJ
        obtain ⟨a1, a2, a3⟩ := id hat
        have hwg := wgt_hd0 (e := e) (W := W1) (by omega)
        refine x_aload_n C dX12_lands_22 rfl 0 rfl rfl ?_
        refine x_get C (ci := 11) (k := 15) 0 k26 rfl in_X12 (by decide) w_1133 rfl dX12_lands_23 rfl ?_
        refine x_aload_n C dX12_lands_26 rfl 0 rfl rfl ?_
        refine x_get C (ci := 11) (k := 11) 0 k26 rfl in_X12 (by decide) w_1129 rfl dX12_lands_27 rfl ?_
        refine x_iconst C (v := 1) dX12_lands_30 (by decide) rfl ?_
        refine x_isub C (v := (nI (wx - 1))) dX12_lands_31 (pk_sub (a := wx) (b := 1) (by omega)) rfl ?_
        refine x_ialk C (v := (fw (wx - 1))) (wx - 1) (nI_clamp (by omega)) (nI_pos (by omega)) (by omega) 6 iv0_2 rfl dX12_lands_32 rfl ?_
        refine x_top iv0_3.2.1 ?_
        refine x_ldc C w_1340 dX12_lands_33 rfl ?_
        refine x_irem C (v := (nI (e.2))) dX12_lands_35 (by decide) (remW (by omega) iv0_3.2.2.2.1) rfl ?_
        refine x_istore_n C (lv' := [(2, .int (nI (e.2))), (0, .ref (a 0)), (1, .int 1)]) dX12_lands_36 rfl (by decide) rfl rfl ?_
        refine x_aload_n C dX12_lands_37 rfl 1 rfl rfl ?_
        refine x_get C (ci := 11) (k := 14) 0 k26 rfl in_X12 (by decide) w_1132 rfl dX12_lands_38 rfl ?_
        refine x_iload_n C dX12_lands_41 rfl 0 rfl rfl ?_
        refine x_ldc C w_1340 dX12_lands_42 rfl ?_
        refine x_aload_n C dX12_lands_44 rfl 1 rfl rfl ?_
        refine x_get C (ci := 11) (k := 14) 0 k26 rfl in_X12 (by decide) w_1132 rfl dX12_lands_45 rfl ?_
        refine x_iload_n C dX12_lands_48 rfl 0 rfl rfl ?_
        refine x_ialk C (v := (fx (e.2))) (e.2) (nI_clamp (by omega)) (nI_pos (by omega)) (by omega) 5 iv0_1 rfl dX12_lands_49 rfl ?_
        refine x_top a3 ?_
        refine x_ldc C w_1340 dX12_lands_50 rfl ?_
        refine x_idiv C (v := (nI op)) dX12_lands_52 (by decide) (divU a1 a2) rfl ?_
        refine x_imul C (v := (nI (1048576 * op))) dX12_lands_53 (pk_mul 1048576 op) rfl ?_
        refine x_aload_n C dX12_lands_54 rfl 1 rfl rfl ?_
        refine x_get C (ci := 11) (k := 10) 0 k26 rfl in_X12 (by decide) w_1128 rfl dX12_lands_55 rfl ?_
        refine x_iadd C (v := (nI ((1048576 * op) + cm))) dX12_lands_58 (nI_add (1048576 * op) cm) rfl ?_
        obtain ⟨w34, hw35⟩ : ∃ w : va_W, w = List.set wl0 5 (iA E (a 5) 260 (upd fx (e.2) (nI ((1048576 * op) + cm)))) := ⟨_, rfl⟩
        refine x_iask C (e.2) (nI_clamp (by omega)) (nI_pos (by omega)) (by omega) 5 iv0_1 hw35.symm dX12_lands_59 rfl ?_
        have hW36 : WX (okM E a cd) w34 := by rw [hw35]; exact hWl0.set (k := 5) rfl ⟨_, rfl⟩
        have k37 : w34[0]? = some (ob (a 0) 11 [.ref (a 1), .ref (a 2), .ref (a 3), .ref (a 4), .int (nI tp), .int (nI pl), .int (nI le), .int v14, .int nu, .int v15, .int (nI cm), .int (nI wx), .int (nI sm), .int (nI (cd.2.2.2.2.2)), .ref (a 5), .ref (a 6), .ref (a 7), .ref (a 8), .ref (a 9), .ref (a 10), .ref (a 11), .ref (a 12), .ref (a 13), .ref (a 14), .ref (a 15), .ref (a 16), .ref (a 17), .int (nI lm), .ref (a 18), .ref (a 19), .ref (a 20), .ref (a 21), .int v16, .int v17, .int v18, .int v19, .int (nI n21), .int (nI n22), .ref (a 22), .ref (a 23), .ref (a 24), .ref (a 25), .ref (a 26), .ref (a 27), .ref (a 28), .ref (a 29), .ref (a 30), .int v20]) := by rw [hw35]; exact set_ne k26 (by decide)
        have k38 : w34[5]? = some (iA E (a 5) 260 (upd fx (e.2) (nI ((1048576 * op) + cm)))) := by rw [hw35]; exact set_eq iv0_1
        have k39 : w34[6]? = some (iA E (a 6) 260 fw) := by rw [hw35]; exact set_ne iv0_2 (by decide)
        have kp40 := keeps_set kq0 hw35 (by first | exact rfl | decide | omega | (dsimp only; omega))
        refine x_aload_n C dX12_lands_60 rfl 1 rfl rfl ?_
        refine x_aload_n C dX12_lands_61 rfl 1 rfl rfl ?_
        refine x_get C (ci := 11) (k := 11) 0 k37 rfl in_X12 (by decide) w_1129 rfl dX12_lands_62 rfl ?_
        refine x_iconst C (v := 1) dX12_lands_65 (by decide) rfl ?_
        refine x_isub C (v := (nI (wx - 1))) dX12_lands_66 (pk_sub (a := wx) (b := 1) (by omega)) rfl ?_
        obtain ⟨w41, hw42⟩ : ∃ w : va_W, w = List.set w34 0 (ob (a 0) 11 [.ref (a 1), .ref (a 2), .ref (a 3), .ref (a 4), .int (nI tp), .int (nI pl), .int (nI le), .int v14, .int nu, .int v15, .int (nI cm), .int (nI (wx - 1)), .int (nI sm), .int (nI (cd.2.2.2.2.2)), .ref (a 5), .ref (a 6), .ref (a 7), .ref (a 8), .ref (a 9), .ref (a 10), .ref (a 11), .ref (a 12), .ref (a 13), .ref (a 14), .ref (a 15), .ref (a 16), .ref (a 17), .int (nI lm), .ref (a 18), .ref (a 19), .ref (a 20), .ref (a 21), .int v16, .int v17, .int v18, .int v19, .int (nI n21), .int (nI n22), .ref (a 22), .ref (a 23), .ref (a 24), .ref (a 25), .ref (a 26), .ref (a 27), .ref (a 28), .ref (a 29), .ref (a 30), .int v20]) := ⟨_, rfl⟩
        refine x_put C (ci := 11) (k := 11) (ty := .int) 0 k37 rfl in_X12 tyX12 tyX12_ok nmX12 (by decide) w_1129 rfl rfl rfl rfl (Nat.le_of_ble_eq_true rfl) hw42.symm dX12_lands_67 rfl ?_
        have hW43 : WX (okM E a cd) w41 := by rw [hw42]; exact hW36.set (k := 0) rfl ⟨tp, pl, le, v14, nu, v15, cm, (wx - 1), sm, lm, v16, v17, v18, v19, n21, n22, v20, by omega, by omega, by omega, by omega, by omega, by omega, by omega, by omega, by omega, zb25, rfl⟩
        have k44 : w41[0]? = some (ob (a 0) 11 [.ref (a 1), .ref (a 2), .ref (a 3), .ref (a 4), .int (nI tp), .int (nI pl), .int (nI le), .int v14, .int nu, .int v15, .int (nI cm), .int (nI (wx - 1)), .int (nI sm), .int (nI (cd.2.2.2.2.2)), .ref (a 5), .ref (a 6), .ref (a 7), .ref (a 8), .ref (a 9), .ref (a 10), .ref (a 11), .ref (a 12), .ref (a 13), .ref (a 14), .ref (a 15), .ref (a 16), .ref (a 17), .int (nI lm), .ref (a 18), .ref (a 19), .ref (a 20), .ref (a 21), .int v16, .int v17, .int v18, .int v19, .int (nI n21), .int (nI n22), .ref (a 22), .ref (a 23), .ref (a 24), .ref (a 25), .ref (a 26), .ref (a 27), .ref (a 28), .ref (a 29), .ref (a 30), .int v20]) := by rw [hw42]; exact set_eq k37
        have k45 : w41[5]? = some (iA E (a 5) 260 (upd fx (e.2) (nI ((1048576 * op) + cm)))) := by rw [hw42]; exact set_ne k38 (by decide)
        have k46 : w41[6]? = some (iA E (a 6) 260 fw) := by rw [hw42]; exact set_ne k39 (by decide)
        have kp47 := keeps_set kp40 hw42 (by first | exact rfl | decide | omega | (dsimp only; omega))
        refine x_goto C (tgt := 0) dX12_lands_70 (by decide) ?_
        refine x_lv (lv1 := [(0, .ref (a 0)), (1, .int 1)]) [1, 2] rfl ?_
        exact ih0 (wx - 1) ((upd fx (e.2) (nI ((1048576 * op) + cm)))) W1 w41 hW43 (by omega) ⟨v14, v15, v16, v17, v18, v19, v20, n21, n22, ⟨by omega, by omega, by omega, by omega, by omega, by omega, by omega⟩, ⟨by omega, by omega⟩, zb25, k44⟩ k45 k46 iv0_3.2.2.2.2 (CI_land iv0_4 hJ ho hat (by omega)) (cOps_hd iv0_5).2 (bot_hd iv0_6 (by omega)) (by omega) (ag_upd iv0_8 hp1) kp47
      · skip
        have nf48 : ¬ e.1 = 11 := fun q => c32 (congrArg nI q)
        refine x_iload_n C dX12_lands_9 rfl 1 rfl rfl ?_
        refine x_if_eq C (tgt := 73) dX12_lands_10 (by decide) rfl (fun h => absurd h (by decide)) (fun _ => ?_)
        refine x_aload_n C dX12_lands_13 rfl 0 rfl rfl ?_
        refine x_vi C (As := []) (rest := []) (m_waitTop E l a cd hG wl0 hWl0 tp pl le cm wx sm lm nu ⟨v14, v15, v16, v17, v18, v19, v20, n21, n22, ⟨by omega, by omega, by omega, by omega, by omega, by omega, by omega⟩, ⟨by omega, by omega⟩, zb25, k26⟩ fw iv0_2 (e :: W1) iv0_3) mf_X12_waitTop w_1363 0 k26 rfl rfl rfl (Nat.le_of_ble_eq_true rfl) ⟨(Nat.le_of_ble_eq_true rfl), (Nat.le_of_ble_eq_true rfl)⟩ ⟨(Nat.le_of_ble_eq_true rfl), (Nat.le_of_ble_eq_true rfl)⟩ dX12_lands_14 rfl (fun r50 w51 h49 => ?_)
        obtain ⟨hW52, x53⟩ := h49
        refine x_ws hW52 ?_
        refine x_top (x53.trans (show wtop (e :: W1) = (nI (e.1)) from rfl)) ?_
        refine x_bipush C (v := 12) dX12_lands_17 (by decide) rfl ?_
        refine x_icmp_ne C (tgt := 73) dX12_lands_19 (by decide) rfl (fun c54 => ?_) (fun c54 => ?_)
        · skip
          have nf55 : ¬ e.1 = 12 := fun q => c54 (congrArg nI q)
          exact x_vret C hr hlk dX12_lands_73 ⟨hWl0, kq0, ⟨wx, fx, (e :: W1), iv0_3, by omega, ⟨v14, v15, v16, v17, v18, v19, v20, n21, n22, ⟨by omega, by omega, by omega, by omega, by omega, by omega, by omega⟩, ⟨by omega, by omega⟩, zb25, k26⟩, iv0_1, iv0_4, iv0_5, iv0_6, by omega, iv0_8, fun e9 W9 q9 => by injection q9 with q8 q7; subst q8; exact nJ ⟨by omega, by omega⟩⟩⟩
        · skip
          have nf56 : e.1 = 12 := (nI_eq (by omega) (by omega)).mp c54
          have hJ : isJ e := by show e.1 = 11 ∨ e.1 = 12; omega
          obtain ⟨hp1, hp2, op, v, ho, hat⟩ := CI_at iv0_4 hJ
          obtain ⟨a1, a2, a3⟩ := id hat
          have hwg := wgt_hd0 (e := e) (W := W1) (by omega)
          refine x_aload_n C dX12_lands_22 rfl 0 rfl rfl ?_
          refine x_get C (ci := 11) (k := 15) 0 k26 rfl in_X12 (by decide) w_1133 rfl dX12_lands_23 rfl ?_
          refine x_aload_n C dX12_lands_26 rfl 0 rfl rfl ?_
          refine x_get C (ci := 11) (k := 11) 0 k26 rfl in_X12 (by decide) w_1129 rfl dX12_lands_27 rfl ?_
          refine x_iconst C (v := 1) dX12_lands_30 (by decide) rfl ?_
          refine x_isub C (v := (nI (wx - 1))) dX12_lands_31 (pk_sub (a := wx) (b := 1) (by omega)) rfl ?_
          refine x_ialk C (v := (fw (wx - 1))) (wx - 1) (nI_clamp (by omega)) (nI_pos (by omega)) (by omega) 6 iv0_2 rfl dX12_lands_32 rfl ?_
          refine x_top iv0_3.2.1 ?_
          refine x_ldc C w_1340 dX12_lands_33 rfl ?_
          refine x_irem C (v := (nI (e.2))) dX12_lands_35 (by decide) (remW (by omega) iv0_3.2.2.2.1) rfl ?_
          refine x_istore_n C (lv' := [(2, .int (nI (e.2))), (0, .ref (a 0)), (1, .int 1)]) dX12_lands_36 rfl (by decide) rfl rfl ?_
          refine x_aload_n C dX12_lands_37 rfl 1 rfl rfl ?_
          refine x_get C (ci := 11) (k := 14) 0 k26 rfl in_X12 (by decide) w_1132 rfl dX12_lands_38 rfl ?_
          refine x_iload_n C dX12_lands_41 rfl 0 rfl rfl ?_
          refine x_ldc C w_1340 dX12_lands_42 rfl ?_
          refine x_aload_n C dX12_lands_44 rfl 1 rfl rfl ?_
          refine x_get C (ci := 11) (k := 14) 0 k26 rfl in_X12 (by decide) w_1132 rfl dX12_lands_45 rfl ?_
          refine x_iload_n C dX12_lands_48 rfl 0 rfl rfl ?_
          refine x_ialk C (v := (fx (e.2))) (e.2) (nI_clamp (by omega)) (nI_pos (by omega)) (by omega) 5 iv0_1 rfl dX12_lands_49 rfl ?_
          refine x_top a3 ?_
          refine x_ldc C w_1340 dX12_lands_50 rfl ?_
          refine x_idiv C (v := (nI op)) dX12_lands_52 (by decide) (divU a1 a2) rfl ?_
          refine x_imul C (v := (nI (1048576 * op))) dX12_lands_53 (pk_mul 1048576 op) rfl ?_
          refine x_aload_n C dX12_lands_54 rfl 1 rfl rfl ?_
          refine x_get C (ci := 11) (k := 10) 0 k26 rfl in_X12 (by decide) w_1128 rfl dX12_lands_55 rfl ?_
          refine x_iadd C (v := (nI ((1048576 * op) + cm))) dX12_lands_58 (nI_add (1048576 * op) cm) rfl ?_
          obtain ⟨w57, hw58⟩ : ∃ w : va_W, w = List.set wl0 5 (iA E (a 5) 260 (upd fx (e.2) (nI ((1048576 * op) + cm)))) := ⟨_, rfl⟩
          refine x_iask C (e.2) (nI_clamp (by omega)) (nI_pos (by omega)) (by omega) 5 iv0_1 hw58.symm dX12_lands_59 rfl ?_
          have hW59 : WX (okM E a cd) w57 := by rw [hw58]; exact hWl0.set (k := 5) rfl ⟨_, rfl⟩
          have k60 : w57[0]? = some (ob (a 0) 11 [.ref (a 1), .ref (a 2), .ref (a 3), .ref (a 4), .int (nI tp), .int (nI pl), .int (nI le), .int v14, .int nu, .int v15, .int (nI cm), .int (nI wx), .int (nI sm), .int (nI (cd.2.2.2.2.2)), .ref (a 5), .ref (a 6), .ref (a 7), .ref (a 8), .ref (a 9), .ref (a 10), .ref (a 11), .ref (a 12), .ref (a 13), .ref (a 14), .ref (a 15), .ref (a 16), .ref (a 17), .int (nI lm), .ref (a 18), .ref (a 19), .ref (a 20), .ref (a 21), .int v16, .int v17, .int v18, .int v19, .int (nI n21), .int (nI n22), .ref (a 22), .ref (a 23), .ref (a 24), .ref (a 25), .ref (a 26), .ref (a 27), .ref (a 28), .ref (a 29), .ref (a 30), .int v20]) := by rw [hw58]; exact set_ne k26 (by decide)
          have k61 : w57[5]? = some (iA E (a 5) 260 (upd fx (e.2) (nI ((1048576 * op) + cm)))) := by rw [hw58]; exact set_eq iv0_1
          have k62 : w57[6]? = some (iA E (a 6) 260 fw) := by rw [hw58]; exact set_ne iv0_2 (by decide)
          have kp63 := keeps_set kq0 hw58 (by first | exact rfl | decide | omega | (dsimp only; omega))
          refine x_aload_n C dX12_lands_60 rfl 1 rfl rfl ?_
          refine x_aload_n C dX12_lands_61 rfl 1 rfl rfl ?_
          refine x_get C (ci := 11) (k := 11) 0 k60 rfl in_X12 (by decide) w_1129 rfl dX12_lands_62 rfl ?_
          refine x_iconst C (v := 1) dX12_lands_65 (by decide) rfl ?_
          refine x_isub C (v := (nI (wx - 1))) dX12_lands_66 (pk_sub (a := wx) (b := 1) (by omega)) rfl ?_
          obtain ⟨w64, hw65⟩ : ∃ w : va_W, w = List.set w57 0 (ob (a 0) 11 [.ref (a 1), .ref (a 2), .ref (a 3), .ref (a 4), .int (nI tp), .int (nI pl), .int (nI le), .int v14, .int nu, .int v15, .int (nI cm), .int (nI (wx - 1)), .int (nI sm), .int (nI (cd.2.2.2.2.2)), .ref (a 5), .ref (a 6), .ref (a 7), .ref (a 8), .ref (a 9), .ref (a 10), .ref (a 11), .ref (a 12), .ref (a 13), .ref (a 14), .ref (a 15), .ref (a 16), .ref (a 17), .int (nI lm), .ref (a 18), .ref (a 19), .ref (a 20), .ref (a 21), .int v16, .int v17, .int v18, .int v19, .int (nI n21), .int (nI n22), .ref (a 22), .ref (a 23), .ref (a 24), .ref (a 25), .ref (a 26), .ref (a 27), .ref (a 28), .ref (a 29), .ref (a 30), .int v20]) := ⟨_, rfl⟩
          refine x_put C (ci := 11) (k := 11) (ty := .int) 0 k60 rfl in_X12 tyX12 tyX12_ok nmX12 (by decide) w_1129 rfl rfl rfl rfl (Nat.le_of_ble_eq_true rfl) hw65.symm dX12_lands_67 rfl ?_
          have hW66 : WX (okM E a cd) w64 := by rw [hw65]; exact hW59.set (k := 0) rfl ⟨tp, pl, le, v14, nu, v15, cm, (wx - 1), sm, lm, v16, v17, v18, v19, n21, n22, v20, by omega, by omega, by omega, by omega, by omega, by omega, by omega, by omega, by omega, zb25, rfl⟩
          have k67 : w64[0]? = some (ob (a 0) 11 [.ref (a 1), .ref (a 2), .ref (a 3), .ref (a 4), .int (nI tp), .int (nI pl), .int (nI le), .int v14, .int nu, .int v15, .int (nI cm), .int (nI (wx - 1)), .int (nI sm), .int (nI (cd.2.2.2.2.2)), .ref (a 5), .ref (a 6), .ref (a 7), .ref (a 8), .ref (a 9), .ref (a 10), .ref (a 11), .ref (a 12), .ref (a 13), .ref (a 14), .ref (a 15), .ref (a 16), .ref (a 17), .int (nI lm), .ref (a 18), .ref (a 19), .ref (a 20), .ref (a 21), .int v16, .int v17, .int v18, .int v19, .int (nI n21), .int (nI n22), .ref (a 22), .ref (a 23), .ref (a 24), .ref (a 25), .ref (a 26), .ref (a 27), .ref (a 28), .ref (a 29), .ref (a 30), .int v20]) := by rw [hw65]; exact set_eq k60
          have k68 : w64[5]? = some (iA E (a 5) 260 (upd fx (e.2) (nI ((1048576 * op) + cm)))) := by rw [hw65]; exact set_ne k61 (by decide)
          have k69 : w64[6]? = some (iA E (a 6) 260 fw) := by rw [hw65]; exact set_ne k62 (by decide)
          have kp70 := keeps_set kp63 hw65 (by first | exact rfl | decide | omega | (dsimp only; omega))
          refine x_goto C (tgt := 0) dX12_lands_70 (by decide) ?_
          refine x_lv (lv1 := [(0, .ref (a 0)), (1, .int 1)]) [1, 2] rfl ?_
          exact ih0 (wx - 1) ((upd fx (e.2) (nI ((1048576 * op) + cm)))) W1 w64 hW66 (by omega) ⟨v14, v15, v16, v17, v18, v19, v20, n21, n22, ⟨by omega, by omega, by omega, by omega, by omega, by omega, by omega⟩, ⟨by omega, by omega⟩, zb25, k67⟩ k68 k69 iv0_3.2.2.2.2 (CI_land iv0_4 hJ ho hat (by omega)) (cOps_hd iv0_5).2 (bot_hd iv0_6 (by omega)) (by omega) (ag_upd iv0_8 hp1) kp70
  refine x_lv (lv1 := [(0, .ref (a 0)), (1, .int 1)]) [0, 1] rfl ?_
  exact loop0 _ wt fs W ws hW (Nat.lt_succ_self _) ⟨v1, v2, v3, v4, v5, v6, v7, n8, n9, ⟨by omega, by omega, by omega, by omega, by omega, by omega, by omega⟩, ⟨by omega, by omega⟩, zb12, k13⟩ hfs hfw hwr hci hco hbo ⟨rfl, Nat.le_refl _⟩ (fun _ _ => rfl) kp0
theorem dX12_jumps_0 : decode cX12_jumps 0 = .ok (.aload_n 0, 1) := by decide +kernel
theorem dX12_jumps_1 : decode cX12_jumps 1 = .ok (.getfield 26, 3) := by decide +kernel
theorem dX12_jumps_4 : decode cX12_jumps 4 = .ok (.aload_n 0, 1) := by decide +kernel
theorem dX12_jumps_5 : decode cX12_jumps 5 = .ok (.getfield 161, 3) := by decide +kernel
theorem dX12_jumps_8 : decode cX12_jumps 8 = .ok (.ldc 157, 2) := by decide +kernel
theorem dX12_jumps_10 : decode cX12_jumps 10 = .ok (.iload_n 1, 1) := by decide +kernel
theorem dX12_jumps_11 : decode cX12_jumps 11 = .ok (.imul, 1) := by decide +kernel
theorem dX12_jumps_12 : decode cX12_jumps 12 = .ok (.aload_n 0, 1) := by decide +kernel
theorem dX12_jumps_13 : decode cX12_jumps 13 = .ok (.getfield 154, 3) := by decide +kernel
theorem dX12_jumps_16 : decode cX12_jumps 16 = .ok (.iadd, 1) := by decide +kernel
theorem dX12_jumps_17 : decode cX12_jumps 17 = .ok (.iastore, 1) := by decide +kernel
theorem dX12_jumps_18 : decode cX12_jumps 18 = .ok (.aload_n 0, 1) := by decide +kernel
theorem dX12_jumps_19 : decode cX12_jumps 19 = .ok (.aload_n 0, 1) := by decide +kernel
theorem dX12_jumps_20 : decode cX12_jumps 20 = .ok (.getfield 161, 3) := by decide +kernel
theorem dX12_jumps_23 : decode cX12_jumps 23 = .ok (.iconst 1, 1) := by decide +kernel
theorem dX12_jumps_24 : decode cX12_jumps 24 = .ok (.iadd, 1) := by decide +kernel
theorem dX12_jumps_25 : decode cX12_jumps 25 = .ok (.putfield 161, 3) := by decide +kernel
theorem dX12_jumps_28 : decode cX12_jumps 28 = .ok (.aload_n 0, 1) := by decide +kernel
theorem dX12_jumps_29 : decode cX12_jumps 29 = .ok (.iload_n 1, 1) := by decide +kernel
theorem dX12_jumps_30 : decode cX12_jumps 30 = .ok (.iconst 0, 1) := by decide +kernel
theorem dX12_jumps_31 : decode cX12_jumps 31 = .ok (.invokevirtual 167, 3) := by decide +kernel
theorem dX12_jumps_34 : decode cX12_jumps 34 = .ok (.aload_n 0, 1) := by decide +kernel
theorem dX12_jumps_35 : decode cX12_jumps 35 = .ok (.aload_n 0, 1) := by decide +kernel
theorem dX12_jumps_36 : decode cX12_jumps 36 = .ok (.getfield 131, 3) := by decide +kernel
theorem dX12_jumps_39 : decode cX12_jumps 39 = .ok (.iconst 1, 1) := by decide +kernel
theorem dX12_jumps_40 : decode cX12_jumps 40 = .ok (.iadd, 1) := by decide +kernel
theorem dX12_jumps_41 : decode cX12_jumps 41 = .ok (.putfield 131, 3) := by decide +kernel
theorem dX12_jumps_44 : decode cX12_jumps 44 = .ok (.return_, 1) := by decide +kernel
set_option maxRecDepth 20000 in
set_option maxHeartbeats 4000000 in
theorem m_jumps11 (E : xE) (l : Launch) (a : Nat → Nat) (cd : Cd) (hG : Good cd) (ws : va_W) (hW : WX (okM E a cd) ws) (tp pl le cm wt sm lm : Nat) (nu : Int32) (h0 : MO a cd ws tp pl le cm wt sm lm nu) (fs : Nat → Int32) (hfs : ws[5]? = some (iA E (a 5) 260 fs)) (fw : Nat → Int32) (hfw : ws[6]? = some (iA E (a 6) 260 fw)) (hwt : wt ≤ 259) (hcm : cm ≤ 259) (hpl : pl ≤ 239) : xV E l yX12_jumps cX12_jumps 2 1 0 0 [.ref (a 0), .int 11] ws (fun w => WX (okM E a cd) w ∧ keeps ws w (fun q => q = 0 ∨ q = 5 ∨ q = 6) ∧ (MO a cd w tp (pl + 1) le (cm + 1) (wt + 1) sm lm nu ∧ w[5]? = some (iA E (a 5) 260 (upd fs cm (nI (1048576 * 11 + 0)))) ∧ w[6]? = some (iA E (a 6) 260 (upd fw wt (nI (1048576 * 11 + cm)))))) := by
  refine xV_start (lv := [(0, .ref (a 0)), (1, .int 11)]) RX12 (by decide) rfl (Nat.le_of_ble_eq_true rfl) rfl (fun p e s m below meth c A C hr hlk hin => ?_)
  have kp0 : keeps ws ws (fun q => q = 0 ∨ q = 5 ∨ q = 6) := keeps_rf
  obtain ⟨v1, v2, v3, v4, v5, v6, v7, n8, n9, bo10, bo11, zb12, k13⟩ := h0
  refine x_aload_n C dX12_jumps_0 rfl 0 rfl rfl ?_
  refine x_get C (ci := 11) (k := 15) 0 k13 rfl in_X12 (by decide) w_1133 rfl dX12_jumps_1 rfl ?_
  refine x_aload_n C dX12_jumps_4 rfl 0 rfl rfl ?_
  refine x_get C (ci := 11) (k := 11) 0 k13 rfl in_X12 (by decide) w_1129 rfl dX12_jumps_5 rfl ?_
  refine x_ldc C w_1340 dX12_jumps_8 rfl ?_
  refine x_iload_n C dX12_jumps_10 rfl 1 rfl rfl ?_
  refine x_imul C (v := 11534336) dX12_jumps_11 (by decide) rfl ?_
  refine x_aload_n C dX12_jumps_12 rfl 0 rfl rfl ?_
  refine x_get C (ci := 11) (k := 10) 0 k13 rfl in_X12 (by decide) w_1128 rfl dX12_jumps_13 rfl ?_
  refine x_iadd C (v := (nI (11534336 + cm))) dX12_jumps_16 (nI_add 11534336 cm) rfl ?_
  obtain ⟨w14, hw15⟩ : ∃ w : va_W, w = List.set ws 6 (iA E (a 6) 260 (upd fw wt (nI (11534336 + cm)))) := ⟨_, rfl⟩
  refine x_iask C wt (nI_clamp (by omega)) (nI_pos (by omega)) (by omega) 6 hfw hw15.symm dX12_jumps_17 rfl ?_
  have hW16 : WX (okM E a cd) w14 := by rw [hw15]; exact hW.set (k := 6) rfl ⟨_, rfl⟩
  have k17 : w14[0]? = some (ob (a 0) 11 [.ref (a 1), .ref (a 2), .ref (a 3), .ref (a 4), .int (nI tp), .int (nI pl), .int (nI le), .int v1, .int nu, .int v2, .int (nI cm), .int (nI wt), .int (nI sm), .int (nI (cd.2.2.2.2.2)), .ref (a 5), .ref (a 6), .ref (a 7), .ref (a 8), .ref (a 9), .ref (a 10), .ref (a 11), .ref (a 12), .ref (a 13), .ref (a 14), .ref (a 15), .ref (a 16), .ref (a 17), .int (nI lm), .ref (a 18), .ref (a 19), .ref (a 20), .ref (a 21), .int v3, .int v4, .int v5, .int v6, .int (nI n8), .int (nI n9), .ref (a 22), .ref (a 23), .ref (a 24), .ref (a 25), .ref (a 26), .ref (a 27), .ref (a 28), .ref (a 29), .ref (a 30), .int v7]) := by rw [hw15]; exact set_ne k13 (by decide)
  have k18 : w14[5]? = some (iA E (a 5) 260 fs) := by rw [hw15]; exact set_ne hfs (by decide)
  have k19 : w14[6]? = some (iA E (a 6) 260 (upd fw wt (nI (11534336 + cm)))) := by rw [hw15]; exact set_eq hfw
  have kp20 := keeps_set kp0 hw15 (by first | exact rfl | decide | omega | (dsimp only; omega))
  refine x_aload_n C dX12_jumps_18 rfl 0 rfl rfl ?_
  refine x_aload_n C dX12_jumps_19 rfl 0 rfl rfl ?_
  refine x_get C (ci := 11) (k := 11) 0 k17 rfl in_X12 (by decide) w_1129 rfl dX12_jumps_20 rfl ?_
  refine x_iconst C (v := 1) dX12_jumps_23 (by decide) rfl ?_
  refine x_iadd C (v := (nI (wt + 1))) dX12_jumps_24 (nI_add wt 1) rfl ?_
  obtain ⟨w21, hw22⟩ : ∃ w : va_W, w = List.set w14 0 (ob (a 0) 11 [.ref (a 1), .ref (a 2), .ref (a 3), .ref (a 4), .int (nI tp), .int (nI pl), .int (nI le), .int v1, .int nu, .int v2, .int (nI cm), .int (nI (wt + 1)), .int (nI sm), .int (nI (cd.2.2.2.2.2)), .ref (a 5), .ref (a 6), .ref (a 7), .ref (a 8), .ref (a 9), .ref (a 10), .ref (a 11), .ref (a 12), .ref (a 13), .ref (a 14), .ref (a 15), .ref (a 16), .ref (a 17), .int (nI lm), .ref (a 18), .ref (a 19), .ref (a 20), .ref (a 21), .int v3, .int v4, .int v5, .int v6, .int (nI n8), .int (nI n9), .ref (a 22), .ref (a 23), .ref (a 24), .ref (a 25), .ref (a 26), .ref (a 27), .ref (a 28), .ref (a 29), .ref (a 30), .int v7]) := ⟨_, rfl⟩
  refine x_put C (ci := 11) (k := 11) (ty := .int) 0 k17 rfl in_X12 tyX12 tyX12_ok nmX12 (by decide) w_1129 rfl rfl rfl rfl (Nat.le_of_ble_eq_true rfl) hw22.symm dX12_jumps_25 rfl ?_
  have hW23 : WX (okM E a cd) w21 := by rw [hw22]; exact hW16.set (k := 0) rfl ⟨tp, pl, le, v1, nu, v2, cm, (wt + 1), sm, lm, v3, v4, v5, v6, n8, n9, v7, by omega, by omega, by omega, by omega, by omega, by omega, by omega, by omega, by omega, zb12, rfl⟩
  have k24 : w21[0]? = some (ob (a 0) 11 [.ref (a 1), .ref (a 2), .ref (a 3), .ref (a 4), .int (nI tp), .int (nI pl), .int (nI le), .int v1, .int nu, .int v2, .int (nI cm), .int (nI (wt + 1)), .int (nI sm), .int (nI (cd.2.2.2.2.2)), .ref (a 5), .ref (a 6), .ref (a 7), .ref (a 8), .ref (a 9), .ref (a 10), .ref (a 11), .ref (a 12), .ref (a 13), .ref (a 14), .ref (a 15), .ref (a 16), .ref (a 17), .int (nI lm), .ref (a 18), .ref (a 19), .ref (a 20), .ref (a 21), .int v3, .int v4, .int v5, .int v6, .int (nI n8), .int (nI n9), .ref (a 22), .ref (a 23), .ref (a 24), .ref (a 25), .ref (a 26), .ref (a 27), .ref (a 28), .ref (a 29), .ref (a 30), .int v7]) := by rw [hw22]; exact set_eq k17
  have k25 : w21[5]? = some (iA E (a 5) 260 fs) := by rw [hw22]; exact set_ne k18 (by decide)
  have k26 : w21[6]? = some (iA E (a 6) 260 (upd fw wt (nI (11534336 + cm)))) := by rw [hw22]; exact set_ne k19 (by decide)
  have kp27 := keeps_set kp20 hw22 (by first | exact rfl | decide | omega | (dsimp only; omega))
  refine x_aload_n C dX12_jumps_28 rfl 0 rfl rfl ?_
  refine x_iload_n C dX12_jumps_29 rfl 1 rfl rfl ?_
  refine x_iconst C (v := 0) dX12_jumps_30 (by decide) rfl ?_
  refine x_vv C (As := [.int 11, .int 0]) (rest := []) (m_notes E l a cd hG w21 hW23 11 0 (by omega) (by omega) tp pl le cm (wt + 1) sm lm nu ⟨v1, v2, v3, v4, v5, v6, v7, n8, n9, ⟨by omega, by omega, by omega, by omega, by omega, by omega, by omega⟩, ⟨by omega, by omega⟩, zb12, k24⟩ fs k25 (by omega)) mf_X12_notes w_1349 0 k24 rfl rfl rfl (Nat.le_of_ble_eq_true rfl) ⟨(Nat.le_of_ble_eq_true rfl), (Nat.le_of_ble_eq_true rfl)⟩ ⟨(Nat.le_of_ble_eq_true rfl), (Nat.le_of_ble_eq_true rfl)⟩ dX12_jumps_31 rfl (fun w30 h28 => ?_)
  obtain ⟨hW31, kq32, x33⟩ := h28
  have k34 : w30[6]? = some (iA E (a 6) 260 (upd fw wt (nI (11534336 + cm)))) := keeps_at kq32 k26 (by first | decide | omega | (dsimp only; omega))
  have kp35 := keeps_tr kp27 kq32 (fun q hq => by first | omega | (dsimp only at *; omega))
  obtain ⟨mo36, k37⟩ := x33
  obtain ⟨v38, v39, v40, v41, v42, v43, v44, n45, n46, bo47, bo48, zb49, k50⟩ := mo36
  refine x_aload_n C dX12_jumps_34 rfl 0 rfl rfl ?_
  refine x_aload_n C dX12_jumps_35 rfl 0 rfl rfl ?_
  refine x_get C (ci := 11) (k := 5) 0 k50 rfl in_X12 (by decide) w_1123 rfl dX12_jumps_36 rfl ?_
  refine x_iconst C (v := 1) dX12_jumps_39 (by decide) rfl ?_
  refine x_iadd C (v := (nI (pl + 1))) dX12_jumps_40 (nI_add pl 1) rfl ?_
  obtain ⟨w51, hw52⟩ : ∃ w : va_W, w = List.set w30 0 (ob (a 0) 11 [.ref (a 1), .ref (a 2), .ref (a 3), .ref (a 4), .int (nI tp), .int (nI (pl + 1)), .int (nI le), .int v38, .int nu, .int v39, .int (nI (cm + 1)), .int (nI (wt + 1)), .int (nI sm), .int (nI (cd.2.2.2.2.2)), .ref (a 5), .ref (a 6), .ref (a 7), .ref (a 8), .ref (a 9), .ref (a 10), .ref (a 11), .ref (a 12), .ref (a 13), .ref (a 14), .ref (a 15), .ref (a 16), .ref (a 17), .int (nI lm), .ref (a 18), .ref (a 19), .ref (a 20), .ref (a 21), .int v40, .int v41, .int v42, .int v43, .int (nI n45), .int (nI n46), .ref (a 22), .ref (a 23), .ref (a 24), .ref (a 25), .ref (a 26), .ref (a 27), .ref (a 28), .ref (a 29), .ref (a 30), .int v44]) := ⟨_, rfl⟩
  refine x_put C (ci := 11) (k := 5) (ty := .int) 0 k50 rfl in_X12 tyX12 tyX12_ok nmX12 (by decide) w_1123 rfl rfl rfl rfl (Nat.le_of_ble_eq_true rfl) hw52.symm dX12_jumps_41 rfl ?_
  have hW53 : WX (okM E a cd) w51 := by rw [hw52]; exact hW31.set (k := 0) rfl ⟨tp, (pl + 1), le, v38, nu, v39, (cm + 1), ((wt + 1)), sm, lm, v40, v41, v42, v43, n45, n46, v44, by omega, by omega, by omega, by omega, by omega, by omega, by omega, by omega, by omega, zb49, rfl⟩
  have k54 : w51[6]? = some (iA E (a 6) 260 (upd fw wt (nI (11534336 + cm)))) := by rw [hw52]; exact set_ne k34 (by decide)
  have k55 : w51[0]? = some (ob (a 0) 11 [.ref (a 1), .ref (a 2), .ref (a 3), .ref (a 4), .int (nI tp), .int (nI (pl + 1)), .int (nI le), .int v38, .int nu, .int v39, .int (nI (cm + 1)), .int (nI (wt + 1)), .int (nI sm), .int (nI (cd.2.2.2.2.2)), .ref (a 5), .ref (a 6), .ref (a 7), .ref (a 8), .ref (a 9), .ref (a 10), .ref (a 11), .ref (a 12), .ref (a 13), .ref (a 14), .ref (a 15), .ref (a 16), .ref (a 17), .int (nI lm), .ref (a 18), .ref (a 19), .ref (a 20), .ref (a 21), .int v40, .int v41, .int v42, .int v43, .int (nI n45), .int (nI n46), .ref (a 22), .ref (a 23), .ref (a 24), .ref (a 25), .ref (a 26), .ref (a 27), .ref (a 28), .ref (a 29), .ref (a 30), .int v44]) := by rw [hw52]; exact set_eq k50
  have k56 : w51[5]? = some (iA E (a 5) 260 (upd fs cm (nI (1048576 * 11 + 0)))) := by rw [hw52]; exact set_ne k37 (by decide)
  have kp57 := keeps_set kp35 hw52 (by first | exact rfl | decide | omega | (dsimp only; omega))
  exact x_vret C hr hlk dX12_jumps_44 ⟨hW53, kp57, ⟨⟨v38, v39, v40, v41, v42, v43, v44, n45, n46, ⟨by omega, by omega, by omega, by omega, by omega, by omega, by omega⟩, ⟨by omega, by omega⟩, zb49, k55⟩, k56, k54⟩⟩
set_option maxRecDepth 20000 in
set_option maxHeartbeats 4000000 in
theorem m_jumps12 (E : xE) (l : Launch) (a : Nat → Nat) (cd : Cd) (hG : Good cd) (ws : va_W) (hW : WX (okM E a cd) ws) (tp pl le cm wt sm lm : Nat) (nu : Int32) (h0 : MO a cd ws tp pl le cm wt sm lm nu) (fs : Nat → Int32) (hfs : ws[5]? = some (iA E (a 5) 260 fs)) (fw : Nat → Int32) (hfw : ws[6]? = some (iA E (a 6) 260 fw)) (hwt : wt ≤ 259) (hcm : cm ≤ 259) (hpl : pl ≤ 239) : xV E l yX12_jumps cX12_jumps 2 1 0 0 [.ref (a 0), .int 12] ws (fun w => WX (okM E a cd) w ∧ keeps ws w (fun q => q = 0 ∨ q = 5 ∨ q = 6) ∧ (MO a cd w tp (pl + 1) le (cm + 1) (wt + 1) sm lm nu ∧ w[5]? = some (iA E (a 5) 260 (upd fs cm (nI (1048576 * 12 + 0)))) ∧ w[6]? = some (iA E (a 6) 260 (upd fw wt (nI (1048576 * 12 + cm)))))) := by
  refine xV_start (lv := [(0, .ref (a 0)), (1, .int 12)]) RX12 (by decide) rfl (Nat.le_of_ble_eq_true rfl) rfl (fun p e s m below meth c A C hr hlk hin => ?_)
  have kp0 : keeps ws ws (fun q => q = 0 ∨ q = 5 ∨ q = 6) := keeps_rf
  obtain ⟨v1, v2, v3, v4, v5, v6, v7, n8, n9, bo10, bo11, zb12, k13⟩ := h0
  refine x_aload_n C dX12_jumps_0 rfl 0 rfl rfl ?_
  refine x_get C (ci := 11) (k := 15) 0 k13 rfl in_X12 (by decide) w_1133 rfl dX12_jumps_1 rfl ?_
  refine x_aload_n C dX12_jumps_4 rfl 0 rfl rfl ?_
  refine x_get C (ci := 11) (k := 11) 0 k13 rfl in_X12 (by decide) w_1129 rfl dX12_jumps_5 rfl ?_
  refine x_ldc C w_1340 dX12_jumps_8 rfl ?_
  refine x_iload_n C dX12_jumps_10 rfl 1 rfl rfl ?_
  refine x_imul C (v := 12582912) dX12_jumps_11 (by decide) rfl ?_
  refine x_aload_n C dX12_jumps_12 rfl 0 rfl rfl ?_
  refine x_get C (ci := 11) (k := 10) 0 k13 rfl in_X12 (by decide) w_1128 rfl dX12_jumps_13 rfl ?_
  refine x_iadd C (v := (nI (12582912 + cm))) dX12_jumps_16 (nI_add 12582912 cm) rfl ?_
  obtain ⟨w14, hw15⟩ : ∃ w : va_W, w = List.set ws 6 (iA E (a 6) 260 (upd fw wt (nI (12582912 + cm)))) := ⟨_, rfl⟩
  refine x_iask C wt (nI_clamp (by omega)) (nI_pos (by omega)) (by omega) 6 hfw hw15.symm dX12_jumps_17 rfl ?_
  have hW16 : WX (okM E a cd) w14 := by rw [hw15]; exact hW.set (k := 6) rfl ⟨_, rfl⟩
  have k17 : w14[0]? = some (ob (a 0) 11 [.ref (a 1), .ref (a 2), .ref (a 3), .ref (a 4), .int (nI tp), .int (nI pl), .int (nI le), .int v1, .int nu, .int v2, .int (nI cm), .int (nI wt), .int (nI sm), .int (nI (cd.2.2.2.2.2)), .ref (a 5), .ref (a 6), .ref (a 7), .ref (a 8), .ref (a 9), .ref (a 10), .ref (a 11), .ref (a 12), .ref (a 13), .ref (a 14), .ref (a 15), .ref (a 16), .ref (a 17), .int (nI lm), .ref (a 18), .ref (a 19), .ref (a 20), .ref (a 21), .int v3, .int v4, .int v5, .int v6, .int (nI n8), .int (nI n9), .ref (a 22), .ref (a 23), .ref (a 24), .ref (a 25), .ref (a 26), .ref (a 27), .ref (a 28), .ref (a 29), .ref (a 30), .int v7]) := by rw [hw15]; exact set_ne k13 (by decide)
  have k18 : w14[5]? = some (iA E (a 5) 260 fs) := by rw [hw15]; exact set_ne hfs (by decide)
  have k19 : w14[6]? = some (iA E (a 6) 260 (upd fw wt (nI (12582912 + cm)))) := by rw [hw15]; exact set_eq hfw
  have kp20 := keeps_set kp0 hw15 (by first | exact rfl | decide | omega | (dsimp only; omega))
  refine x_aload_n C dX12_jumps_18 rfl 0 rfl rfl ?_
  refine x_aload_n C dX12_jumps_19 rfl 0 rfl rfl ?_
  refine x_get C (ci := 11) (k := 11) 0 k17 rfl in_X12 (by decide) w_1129 rfl dX12_jumps_20 rfl ?_
  refine x_iconst C (v := 1) dX12_jumps_23 (by decide) rfl ?_
  refine x_iadd C (v := (nI (wt + 1))) dX12_jumps_24 (nI_add wt 1) rfl ?_
  obtain ⟨w21, hw22⟩ : ∃ w : va_W, w = List.set w14 0 (ob (a 0) 11 [.ref (a 1), .ref (a 2), .ref (a 3), .ref (a 4), .int (nI tp), .int (nI pl), .int (nI le), .int v1, .int nu, .int v2, .int (nI cm), .int (nI (wt + 1)), .int (nI sm), .int (nI (cd.2.2.2.2.2)), .ref (a 5), .ref (a 6), .ref (a 7), .ref (a 8), .ref (a 9), .ref (a 10), .ref (a 11), .ref (a 12), .ref (a 13), .ref (a 14), .ref (a 15), .ref (a 16), .ref (a 17), .int (nI lm), .ref (a 18), .ref (a 19), .ref (a 20), .ref (a 21), .int v3, .int v4, .int v5, .int v6, .int (nI n8), .int (nI n9), .ref (a 22), .ref (a 23), .ref (a 24), .ref (a 25), .ref (a 26), .ref (a 27), .ref (a 28), .ref (a 29), .ref (a 30), .int v7]) := ⟨_, rfl⟩
  refine x_put C (ci := 11) (k := 11) (ty := .int) 0 k17 rfl in_X12 tyX12 tyX12_ok nmX12 (by decide) w_1129 rfl rfl rfl rfl (Nat.le_of_ble_eq_true rfl) hw22.symm dX12_jumps_25 rfl ?_
  have hW23 : WX (okM E a cd) w21 := by rw [hw22]; exact hW16.set (k := 0) rfl ⟨tp, pl, le, v1, nu, v2, cm, (wt + 1), sm, lm, v3, v4, v5, v6, n8, n9, v7, by omega, by omega, by omega, by omega, by omega, by omega, by omega, by omega, by omega, zb12, rfl⟩
  have k24 : w21[0]? = some (ob (a 0) 11 [.ref (a 1), .ref (a 2), .ref (a 3), .ref (a 4), .int (nI tp), .int (nI pl), .int (nI le), .int v1, .int nu, .int v2, .int (nI cm), .int (nI (wt + 1)), .int (nI sm), .int (nI (cd.2.2.2.2.2)), .ref (a 5), .ref (a 6), .ref (a 7), .ref (a 8), .ref (a 9), .ref (a 10), .ref (a 11), .ref (a 12), .ref (a 13), .ref (a 14), .ref (a 15), .ref (a 16), .ref (a 17), .int (nI lm), .ref (a 18), .ref (a 19), .ref (a 20), .ref (a 21), .int v3, .int v4, .int v5, .int v6, .int (nI n8), .int (nI n9), .ref (a 22), .ref (a 23), .ref (a 24), .ref (a 25), .ref (a 26), .ref (a 27), .ref (a 28), .ref (a 29), .ref (a 30), .int v7]) := by rw [hw22]; exact set_eq k17
  have k25 : w21[5]? = some (iA E (a 5) 260 fs) := by rw [hw22]; exact set_ne k18 (by decide)
  have k26 : w21[6]? = some (iA E (a 6) 260 (upd fw wt (nI (12582912 + cm)))) := by rw [hw22]; exact set_ne k19 (by decide)
  have kp27 := keeps_set kp20 hw22 (by first | exact rfl | decide | omega | (dsimp only; omega))
  refine x_aload_n C dX12_jumps_28 rfl 0 rfl rfl ?_
  refine x_iload_n C dX12_jumps_29 rfl 1 rfl rfl ?_
  refine x_iconst C (v := 0) dX12_jumps_30 (by decide) rfl ?_
  refine x_vv C (As := [.int 12, .int 0]) (rest := []) (m_notes E l a cd hG w21 hW23 12 0 (by omega) (by omega) tp pl le cm (wt + 1) sm lm nu ⟨v1, v2, v3, v4, v5, v6, v7, n8, n9, ⟨by omega, by omega, by omega, by omega, by omega, by omega, by omega⟩, ⟨by omega, by omega⟩, zb12, k24⟩ fs k25 (by omega)) mf_X12_notes w_1349 0 k24 rfl rfl rfl (Nat.le_of_ble_eq_true rfl) ⟨(Nat.le_of_ble_eq_true rfl), (Nat.le_of_ble_eq_true rfl)⟩ ⟨(Nat.le_of_ble_eq_true rfl), (Nat.le_of_ble_eq_true rfl)⟩ dX12_jumps_31 rfl (fun w30 h28 => ?_)
  obtain ⟨hW31, kq32, x33⟩ := h28
  have k34 : w30[6]? = some (iA E (a 6) 260 (upd fw wt (nI (12582912 + cm)))) := keeps_at kq32 k26 (by first | decide | omega | (dsimp only; omega))
  have kp35 := keeps_tr kp27 kq32 (fun q hq => by first | omega | (dsimp only at *; omega))
  obtain ⟨mo36, k37⟩ := x33
  obtain ⟨v38, v39, v40, v41, v42, v43, v44, n45, n46, bo47, bo48, zb49, k50⟩ := mo36
  refine x_aload_n C dX12_jumps_34 rfl 0 rfl rfl ?_
  refine x_aload_n C dX12_jumps_35 rfl 0 rfl rfl ?_
  refine x_get C (ci := 11) (k := 5) 0 k50 rfl in_X12 (by decide) w_1123 rfl dX12_jumps_36 rfl ?_
  refine x_iconst C (v := 1) dX12_jumps_39 (by decide) rfl ?_
  refine x_iadd C (v := (nI (pl + 1))) dX12_jumps_40 (nI_add pl 1) rfl ?_
  obtain ⟨w51, hw52⟩ : ∃ w : va_W, w = List.set w30 0 (ob (a 0) 11 [.ref (a 1), .ref (a 2), .ref (a 3), .ref (a 4), .int (nI tp), .int (nI (pl + 1)), .int (nI le), .int v38, .int nu, .int v39, .int (nI (cm + 1)), .int (nI (wt + 1)), .int (nI sm), .int (nI (cd.2.2.2.2.2)), .ref (a 5), .ref (a 6), .ref (a 7), .ref (a 8), .ref (a 9), .ref (a 10), .ref (a 11), .ref (a 12), .ref (a 13), .ref (a 14), .ref (a 15), .ref (a 16), .ref (a 17), .int (nI lm), .ref (a 18), .ref (a 19), .ref (a 20), .ref (a 21), .int v40, .int v41, .int v42, .int v43, .int (nI n45), .int (nI n46), .ref (a 22), .ref (a 23), .ref (a 24), .ref (a 25), .ref (a 26), .ref (a 27), .ref (a 28), .ref (a 29), .ref (a 30), .int v44]) := ⟨_, rfl⟩
  refine x_put C (ci := 11) (k := 5) (ty := .int) 0 k50 rfl in_X12 tyX12 tyX12_ok nmX12 (by decide) w_1123 rfl rfl rfl rfl (Nat.le_of_ble_eq_true rfl) hw52.symm dX12_jumps_41 rfl ?_
  have hW53 : WX (okM E a cd) w51 := by rw [hw52]; exact hW31.set (k := 0) rfl ⟨tp, (pl + 1), le, v38, nu, v39, (cm + 1), ((wt + 1)), sm, lm, v40, v41, v42, v43, n45, n46, v44, by omega, by omega, by omega, by omega, by omega, by omega, by omega, by omega, by omega, zb49, rfl⟩
  have k54 : w51[6]? = some (iA E (a 6) 260 (upd fw wt (nI (12582912 + cm)))) := by rw [hw52]; exact set_ne k34 (by decide)
  have k55 : w51[0]? = some (ob (a 0) 11 [.ref (a 1), .ref (a 2), .ref (a 3), .ref (a 4), .int (nI tp), .int (nI (pl + 1)), .int (nI le), .int v38, .int nu, .int v39, .int (nI (cm + 1)), .int (nI (wt + 1)), .int (nI sm), .int (nI (cd.2.2.2.2.2)), .ref (a 5), .ref (a 6), .ref (a 7), .ref (a 8), .ref (a 9), .ref (a 10), .ref (a 11), .ref (a 12), .ref (a 13), .ref (a 14), .ref (a 15), .ref (a 16), .ref (a 17), .int (nI lm), .ref (a 18), .ref (a 19), .ref (a 20), .ref (a 21), .int v40, .int v41, .int v42, .int v43, .int (nI n45), .int (nI n46), .ref (a 22), .ref (a 23), .ref (a 24), .ref (a 25), .ref (a 26), .ref (a 27), .ref (a 28), .ref (a 29), .ref (a 30), .int v44]) := by rw [hw52]; exact set_eq k50
  have k56 : w51[5]? = some (iA E (a 5) 260 (upd fs cm (nI (1048576 * 12 + 0)))) := by rw [hw52]; exact set_ne k37 (by decide)
  have kp57 := keeps_set kp35 hw52 (by first | exact rfl | decide | omega | (dsimp only; omega))
  exact x_vret C hr hlk dX12_jumps_44 ⟨hW53, kp57, ⟨⟨v38, v39, v40, v41, v42, v43, v44, n45, n46, ⟨by omega, by omega, by omega, by omega, by omega, by omega, by omega⟩, ⟨by omega, by omega⟩, zb49, k55⟩, k56, k54⟩⟩
theorem dX12_readsCompared_0 : decode cX12_readsCompared 0 = .ok (.aload_n 0, 1) := by decide +kernel
theorem dX12_readsCompared_1 : decode cX12_readsCompared 1 = .ok (.invokevirtual 193, 3) := by decide +kernel
theorem dX12_readsCompared_4 : decode cX12_readsCompared 4 = .ok (.ifCond .ne 5, 3) := by decide +kernel
theorem dX12_readsCompared_7 : decode cX12_readsCompared 7 = .ok (.iconst 0, 1) := by decide +kernel
theorem dX12_readsCompared_8 : decode cX12_readsCompared 8 = .ok (.ireturn, 1) := by decide +kernel
theorem dX12_readsCompared_9 : decode cX12_readsCompared 9 = .ok (.aload_n 0, 1) := by decide +kernel
theorem dX12_readsCompared_10 : decode cX12_readsCompared 10 = .ok (.invokevirtual 137, 3) := by decide +kernel
theorem dX12_readsCompared_13 : decode cX12_readsCompared 13 = .ok (.bipush 60, 2) := by decide +kernel
theorem dX12_readsCompared_15 : decode cX12_readsCompared 15 = .ok (.if_icmp .ne 8, 3) := by decide +kernel
theorem dX12_readsCompared_18 : decode cX12_readsCompared 18 = .ok (.bipush 7, 2) := by decide +kernel
theorem dX12_readsCompared_20 : decode cX12_readsCompared 20 = .ok (.goto 32, 3) := by decide +kernel
theorem dX12_readsCompared_23 : decode cX12_readsCompared 23 = .ok (.aload_n 0, 1) := by decide +kernel
theorem dX12_readsCompared_24 : decode cX12_readsCompared 24 = .ok (.invokevirtual 137, 3) := by decide +kernel
theorem dX12_readsCompared_27 : decode cX12_readsCompared 27 = .ok (.bipush 62, 2) := by decide +kernel
theorem dX12_readsCompared_29 : decode cX12_readsCompared 29 = .ok (.if_icmp .ne 8, 3) := by decide +kernel
theorem dX12_readsCompared_32 : decode cX12_readsCompared 32 = .ok (.bipush 8, 2) := by decide +kernel
theorem dX12_readsCompared_34 : decode cX12_readsCompared 34 = .ok (.goto 18, 3) := by decide +kernel
theorem dX12_readsCompared_37 : decode cX12_readsCompared 37 = .ok (.aload_n 0, 1) := by decide +kernel
theorem dX12_readsCompared_38 : decode cX12_readsCompared 38 = .ok (.invokevirtual 137, 3) := by decide +kernel
theorem dX12_readsCompared_41 : decode cX12_readsCompared 41 = .ok (.bipush 61, 2) := by decide +kernel
theorem dX12_readsCompared_43 : decode cX12_readsCompared 43 = .ok (.if_icmp .ne 8, 3) := by decide +kernel
theorem dX12_readsCompared_46 : decode cX12_readsCompared 46 = .ok (.bipush 9, 2) := by decide +kernel
theorem dX12_readsCompared_48 : decode cX12_readsCompared 48 = .ok (.goto 4, 3) := by decide +kernel
theorem dX12_readsCompared_51 : decode cX12_readsCompared 51 = .ok (.iconst (-1), 1) := by decide +kernel
theorem dX12_readsCompared_52 : decode cX12_readsCompared 52 = .ok (.istore_n 1, 1) := by decide +kernel
theorem dX12_readsCompared_53 : decode cX12_readsCompared 53 = .ok (.iload_n 1, 1) := by decide +kernel
theorem dX12_readsCompared_54 : decode cX12_readsCompared 54 = .ok (.iconst (-1), 1) := by decide +kernel
theorem dX12_readsCompared_55 : decode cX12_readsCompared 55 = .ok (.if_icmp .ne 13, 3) := by decide +kernel
theorem dX12_readsCompared_58 : decode cX12_readsCompared 58 = .ok (.aload_n 0, 1) := by decide +kernel
theorem dX12_readsCompared_59 : decode cX12_readsCompared 59 = .ok (.iconst 1, 1) := by decide +kernel
theorem dX12_readsCompared_60 : decode cX12_readsCompared 60 = .ok (.aload_n 0, 1) := by decide +kernel
theorem dX12_readsCompared_61 : decode cX12_readsCompared 61 = .ok (.getfield 131, 3) := by decide +kernel
theorem dX12_readsCompared_64 : decode cX12_readsCompared 64 = .ok (.invokevirtual 144, 3) := by decide +kernel
theorem dX12_readsCompared_67 : decode cX12_readsCompared 67 = .ok (.ireturn, 1) := by decide +kernel
theorem dX12_readsCompared_68 : decode cX12_readsCompared 68 = .ok (.aload_n 0, 1) := by decide +kernel
theorem dX12_readsCompared_69 : decode cX12_readsCompared 69 = .ok (.aload_n 0, 1) := by decide +kernel
theorem dX12_readsCompared_70 : decode cX12_readsCompared 70 = .ok (.getfield 131, 3) := by decide +kernel
theorem dX12_readsCompared_73 : decode cX12_readsCompared 73 = .ok (.iconst 1, 1) := by decide +kernel
theorem dX12_readsCompared_74 : decode cX12_readsCompared 74 = .ok (.iadd, 1) := by decide +kernel
theorem dX12_readsCompared_75 : decode cX12_readsCompared 75 = .ok (.putfield 131, 3) := by decide +kernel
theorem dX12_readsCompared_78 : decode cX12_readsCompared 78 = .ok (.aload_n 0, 1) := by decide +kernel
theorem dX12_readsCompared_79 : decode cX12_readsCompared 79 = .ok (.invokevirtual 193, 3) := by decide +kernel
theorem dX12_readsCompared_82 : decode cX12_readsCompared 82 = .ok (.ifCond .ne 5, 3) := by decide +kernel
theorem dX12_readsCompared_85 : decode cX12_readsCompared 85 = .ok (.iconst 0, 1) := by decide +kernel
theorem dX12_readsCompared_86 : decode cX12_readsCompared 86 = .ok (.ireturn, 1) := by decide +kernel
theorem dX12_readsCompared_87 : decode cX12_readsCompared 87 = .ok (.aload_n 0, 1) := by decide +kernel
theorem dX12_readsCompared_88 : decode cX12_readsCompared 88 = .ok (.iload_n 1, 1) := by decide +kernel
theorem dX12_readsCompared_89 : decode cX12_readsCompared 89 = .ok (.iconst 0, 1) := by decide +kernel
theorem dX12_readsCompared_90 : decode cX12_readsCompared 90 = .ok (.invokevirtual 167, 3) := by decide +kernel
theorem dX12_readsCompared_93 : decode cX12_readsCompared 93 = .ok (.aload_n 0, 1) := by decide +kernel
theorem dX12_readsCompared_94 : decode cX12_readsCompared 94 = .ok (.invokevirtual 196, 3) := by decide +kernel
theorem dX12_readsCompared_97 : decode cX12_readsCompared 97 = .ok (.iconst 1, 1) := by decide +kernel
theorem dX12_readsCompared_98 : decode cX12_readsCompared 98 = .ok (.ireturn, 1) := by decide +kernel
set_option maxRecDepth 20000 in
set_option maxHeartbeats 4000000 in
theorem m_readsCompared (E : xE) (l : Launch) (a : Nat → Nat) (cd : Cd) (hG : Good cd) (ws : va_W) (hW : WX (okM E a cd) ws) (tp pl le cm wt sm lm : Nat) (nu : Int32) (h0 : MO a cd ws tp pl le cm wt sm lm nu) (tf : Nat → Int32) (htf : ws[4]? = some (bA E (a 4) 260 tf)) (hpl : pl ≤ le) (fs : Nat → Int32) (hfs : ws[5]? = some (iA E (a 5) 260 fs)) (fw : Nat → Int32) (hfw : ws[6]? = some (iA E (a 6) 260 fw)) (W : WL) (hwr : wR fw W wt) (c0 : Nat) (hci : CI fs c0 cm 0 W) (hco : cOps W) (hbo : bot W) (hphi : cm + wgt W ≤ pl) (hwp : wt ≤ pl) : xI E l yX12_readsCompared cX12_readsCompared 2 (some .boolean) 5 [.ref (a 0)] ws (fun r w => WX (okM E a cd) w ∧ keeps ws w (fun q => q = 0 ∨ q = 5 ∨ q = 6) ∧ zb r ∧ ((r = 0 ∧ RF E a cd w tp le sm lm) ∨ (r = 1 ∧ ∃ (pl2 cm2 wt2 : Nat) (fs2 fw2 : Nat → Int32) (We : WL), pl < pl2 ∧ pl2 ≤ le ∧ wR fw2 We wt2 ∧ wt2 ≤ wt ∧ RS E a cd w tp pl2 le cm2 wt2 sm lm fs2 fw2 ∧ CI fs2 c0 cm2 1 We ∧ cOps We ∧ bot We ∧ cm2 + wgt We ≤ pl2 ∧ ∀ k, k < c0 → fs2 k = fs k))) := by
  refine xI_start (lv := [(0, .ref (a 0))]) RX12 (by decide) rfl (Nat.le_of_ble_eq_true rfl) rfl (fun p e s m below meth c A C hr hlk => ?_)
  have kp0 : keeps ws ws (fun q => q = 0 ∨ q = 5 ∨ q = 6) := keeps_rf
  obtain ⟨v1, v2, v3, v4, v5, v6, v7, n8, n9, bo10, bo11, zb12, k13⟩ := h0
  refine x_aload_n C dX12_readsCompared_0 rfl 0 rfl rfl ?_
  refine x_vi C (As := []) (rest := []) (m_readsSum E l a cd hG ws hW tp pl le cm wt sm lm nu ⟨v1, v2, v3, v4, v5, v6, v7, n8, n9, ⟨by omega, by omega, by omega, by omega, by omega, by omega, by omega⟩, ⟨by omega, by omega⟩, zb12, k13⟩ tf htf (by omega) fs hfs fw hfw W hwr (cOps_n hco) c0 0 hci (by omega) 0 (by omega) (by omega)) mf_X12_readsSum w_1328 0 k13 rfl rfl rfl (Nat.le_of_ble_eq_true rfl) ⟨(Nat.le_of_ble_eq_true rfl), (Nat.le_of_ble_eq_true rfl)⟩ ⟨(Nat.le_of_ble_eq_true rfl), (Nat.le_of_ble_eq_true rfl)⟩ dX12_readsCompared_1 rfl (fun r15 w16 h14 => ?_)
  obtain ⟨hW17, kq18, zb19, x20⟩ := h14
  have k21 : w16[4]? = some (bA E (a 4) 260 tf) := keeps_at kq18 htf (by first | decide | omega | (dsimp only; omega))
  have kp22 := keeps_tr kp0 kq18 (fun q hq => by first | omega | (dsimp only at *; omega))
  rcases x20 with ⟨e23, rf24⟩ | ⟨e25, pl26, cm27, fs28, fw29, hs30, hs31, hs32, hs33, hs34, hs35, hs36⟩
  · refine x_top e23 ?_
    obtain ⟨pl37, cm38, wt39, fs40, fw41, rs42⟩ := rf24
    obtain ⟨⟨nu43, mo44⟩, k45, k46⟩ := rs42
    obtain ⟨v47, v48, v49, v50, v51, v52, v53, n54, n55, bo56, bo57, zb58, k59⟩ := mo44
    refine x_if_ne C (tgt := 9) dX12_readsCompared_4 (by decide) rfl (fun h => absurd h (by decide)) (fun _ => ?_)
    refine x_iconst C (v := 0) dX12_readsCompared_7 (by decide) rfl ?_
    exact x_zret C hr hlk rfl dX12_readsCompared_8 ⟨hW17, kp22, (Or.inl rfl), (Or.inl ⟨rfl, ⟨pl37, cm38, wt39, _, _, ⟨⟨_, ⟨v47, v48, v49, v50, v51, v52, v53, n54, n55, ⟨by omega, by omega, by omega, by omega, by omega, by omega, by omega⟩, ⟨by omega, by omega⟩, zb58, k59⟩⟩, k45, k46⟩⟩⟩)⟩
  · refine x_top e25 ?_
    obtain ⟨⟨nu60, mo61⟩, k62, k63⟩ := hs33
    obtain ⟨v64, v65, v66, v67, v68, v69, v70, n71, n72, bo73, bo74, zb75, k76⟩ := mo61
    refine x_if_ne C (tgt := 9) dX12_readsCompared_4 (by decide) rfl (fun _ => ?_) (fun h => absurd h (by decide))
    refine x_aload_n C dX12_readsCompared_9 rfl 0 rfl rfl ?_
    refine x_vi C (As := []) (rest := []) (m_here E l a cd hG w16 hW17 tp pl26 le cm27 wt sm lm nu60 ⟨v64, v65, v66, v67, v68, v69, v70, n71, n72, ⟨by omega, by omega, by omega, by omega, by omega, by omega, by omega⟩, ⟨by omega, by omega⟩, zb75, k76⟩ tf k21) mf_X12_here w_1317 0 k76 rfl rfl rfl (Nat.le_of_ble_eq_true rfl) ⟨(Nat.le_of_ble_eq_true rfl), (Nat.le_of_ble_eq_true rfl)⟩ ⟨(Nat.le_of_ble_eq_true rfl), (Nat.le_of_ble_eq_true rfl)⟩ dX12_readsCompared_10 rfl (fun r78 w79 h77 => ?_)
    obtain ⟨hW80, x81⟩ := h77
    refine x_ws hW80 ?_
    refine x_bipush C (v := 60) dX12_readsCompared_13 (by decide) rfl ?_
    refine x_icmp_ne C (tgt := 23) dX12_readsCompared_15 (by decide) rfl (fun c82 => ?_) (fun c82 => ?_)
    · skip
      refine x_aload_n C dX12_readsCompared_23 rfl 0 rfl rfl ?_
      refine x_vi C (As := []) (rest := []) (m_here E l a cd hG w16 hW17 tp pl26 le cm27 wt sm lm nu60 ⟨v64, v65, v66, v67, v68, v69, v70, n71, n72, ⟨by omega, by omega, by omega, by omega, by omega, by omega, by omega⟩, ⟨by omega, by omega⟩, zb75, k76⟩ tf k21) mf_X12_here w_1317 0 k76 rfl rfl rfl (Nat.le_of_ble_eq_true rfl) ⟨(Nat.le_of_ble_eq_true rfl), (Nat.le_of_ble_eq_true rfl)⟩ ⟨(Nat.le_of_ble_eq_true rfl), (Nat.le_of_ble_eq_true rfl)⟩ dX12_readsCompared_24 rfl (fun r84 w85 h83 => ?_)
      obtain ⟨hW86, x87⟩ := h83
      refine x_ws hW86 ?_
      refine x_bipush C (v := 62) dX12_readsCompared_27 (by decide) rfl ?_
      refine x_icmp_ne C (tgt := 37) dX12_readsCompared_29 (by decide) rfl (fun c88 => ?_) (fun c88 => ?_)
      · skip
        refine x_aload_n C dX12_readsCompared_37 rfl 0 rfl rfl ?_
        refine x_vi C (As := []) (rest := []) (m_here E l a cd hG w16 hW17 tp pl26 le cm27 wt sm lm nu60 ⟨v64, v65, v66, v67, v68, v69, v70, n71, n72, ⟨by omega, by omega, by omega, by omega, by omega, by omega, by omega⟩, ⟨by omega, by omega⟩, zb75, k76⟩ tf k21) mf_X12_here w_1317 0 k76 rfl rfl rfl (Nat.le_of_ble_eq_true rfl) ⟨(Nat.le_of_ble_eq_true rfl), (Nat.le_of_ble_eq_true rfl)⟩ ⟨(Nat.le_of_ble_eq_true rfl), (Nat.le_of_ble_eq_true rfl)⟩ dX12_readsCompared_38 rfl (fun r90 w91 h89 => ?_)
        obtain ⟨hW92, x93⟩ := h89
        refine x_ws hW92 ?_
        refine x_bipush C (v := 61) dX12_readsCompared_41 (by decide) rfl ?_
        refine x_icmp_ne C (tgt := 51) dX12_readsCompared_43 (by decide) rfl (fun c94 => ?_) (fun c94 => ?_)
        · skip
          refine x_iconst C (v := (-1)) dX12_readsCompared_51 (by decide) rfl ?_
          refine x_istore_n C (lv' := [(1, .int (-1)), (0, .ref (a 0))]) dX12_readsCompared_52 rfl (by decide) rfl rfl ?_
          refine x_iload_n C dX12_readsCompared_53 rfl 0 rfl rfl ?_
          refine x_iconst C (v := (-1)) dX12_readsCompared_54 (by decide) rfl ?_
          refine x_icmp_ne C (tgt := 68) dX12_readsCompared_55 (by decide) rfl (fun h => absurd h (by decide)) (fun _ => ?_)
          refine x_aload_n C dX12_readsCompared_58 rfl 1 rfl rfl ?_
          refine x_iconst C (v := 1) dX12_readsCompared_59 (by decide) rfl ?_
          refine x_aload_n C dX12_readsCompared_60 rfl 1 rfl rfl ?_
          refine x_get C (ci := 11) (k := 5) 0 k76 rfl in_X12 (by decide) w_1123 rfl dX12_readsCompared_61 rfl ?_
          refine x_vi C (As := [.int 1, .int (nI pl26)]) (rest := []) (m_wrongAt E l a cd hG w16 hW17 (1 : Int32) ((nI pl26)) tp pl26 le cm27 wt sm lm nu60 ⟨v64, v65, v66, v67, v68, v69, v70, n71, n72, ⟨by omega, by omega, by omega, by omega, by omega, by omega, by omega⟩, ⟨by omega, by omega⟩, zb75, k76⟩) mf_X12_wrongAt w_1324 0 k76 rfl rfl rfl (Nat.le_of_ble_eq_true rfl) ⟨(Nat.le_of_ble_eq_true rfl), (Nat.le_of_ble_eq_true rfl)⟩ ⟨(Nat.le_of_ble_eq_true rfl), (Nat.le_of_ble_eq_true rfl)⟩ dX12_readsCompared_64 rfl (fun r96 w97 h95 => ?_)
          obtain ⟨hW98, kq99, e100, x101⟩ := h95
          refine x_top e100 ?_
          have k102 : w97[4]? = some (bA E (a 4) 260 tf) := keeps_at kq99 k21 (by first | decide | omega | (dsimp only; omega))
          have k103 : w97[5]? = some (iA E (a 5) 260 fs28) := keeps_at kq99 k62 (by first | decide | omega | (dsimp only; omega))
          have k104 : w97[6]? = some (iA E (a 6) 260 fw29) := keeps_at kq99 k63 (by first | decide | omega | (dsimp only; omega))
          have kp105 := keeps_tr kp22 kq99 (fun q hq => by first | omega | (dsimp only at *; omega))
          obtain ⟨v106, v107, v108, v109, v110, v111, v112, n113, n114, bo115, bo116, zb117, k118⟩ := x101
          exact x_zret C hr hlk rfl dX12_readsCompared_67 ⟨hW98, kp105, (Or.inl rfl), (Or.inl ⟨rfl, ⟨pl26, cm27, wt, _, _, ⟨⟨_, ⟨v106, v107, v108, v109, v110, v111, v112, n113, n114, ⟨by omega, by omega, by omega, by omega, by omega, by omega, by omega⟩, ⟨by omega, by omega⟩, zb117, k118⟩⟩, k103, k104⟩⟩⟩)⟩
        · skip
          have hp119 := hv_lt (x93.symm.trans c94) (by decide)
          refine x_bipush C (v := 9) dX12_readsCompared_46 (by decide) rfl ?_
          refine x_goto C (tgt := 52) dX12_readsCompared_48 (by decide) ?_
          refine x_istore_n C (lv' := [(1, .int 9), (0, .ref (a 0))]) dX12_readsCompared_52 rfl (by decide) rfl rfl ?_
          refine x_iload_n C dX12_readsCompared_53 rfl 0 rfl rfl ?_
          refine x_iconst C (v := (-1)) dX12_readsCompared_54 (by decide) rfl ?_
          refine x_icmp_ne C (tgt := 68) dX12_readsCompared_55 (by decide) rfl (fun _ => ?_) (fun h => absurd h (by decide))
          refine x_aload_n C dX12_readsCompared_68 rfl 1 rfl rfl ?_
          refine x_aload_n C dX12_readsCompared_69 rfl 1 rfl rfl ?_
          refine x_get C (ci := 11) (k := 5) 0 k76 rfl in_X12 (by decide) w_1123 rfl dX12_readsCompared_70 rfl ?_
          refine x_iconst C (v := 1) dX12_readsCompared_73 (by decide) rfl ?_
          refine x_iadd C (v := (nI (pl26 + 1))) dX12_readsCompared_74 (nI_add pl26 1) rfl ?_
          obtain ⟨w120, hw121⟩ : ∃ w : va_W, w = List.set w16 0 (ob (a 0) 11 [.ref (a 1), .ref (a 2), .ref (a 3), .ref (a 4), .int (nI tp), .int (nI (pl26 + 1)), .int (nI le), .int v64, .int nu60, .int v65, .int (nI cm27), .int (nI wt), .int (nI sm), .int (nI (cd.2.2.2.2.2)), .ref (a 5), .ref (a 6), .ref (a 7), .ref (a 8), .ref (a 9), .ref (a 10), .ref (a 11), .ref (a 12), .ref (a 13), .ref (a 14), .ref (a 15), .ref (a 16), .ref (a 17), .int (nI lm), .ref (a 18), .ref (a 19), .ref (a 20), .ref (a 21), .int v66, .int v67, .int v68, .int v69, .int (nI n71), .int (nI n72), .ref (a 22), .ref (a 23), .ref (a 24), .ref (a 25), .ref (a 26), .ref (a 27), .ref (a 28), .ref (a 29), .ref (a 30), .int v70]) := ⟨_, rfl⟩
          refine x_put C (ci := 11) (k := 5) (ty := .int) 0 k76 rfl in_X12 tyX12 tyX12_ok nmX12 (by decide) w_1123 rfl rfl rfl rfl (Nat.le_of_ble_eq_true rfl) hw121.symm dX12_readsCompared_75 rfl ?_
          have hW122 : WX (okM E a cd) w120 := by rw [hw121]; exact hW17.set (k := 0) rfl ⟨tp, (pl26 + 1), le, v64, nu60, v65, cm27, wt, sm, lm, v66, v67, v68, v69, n71, n72, v70, by omega, by omega, by omega, by omega, by omega, by omega, by omega, by omega, by omega, zb75, rfl⟩
          have k123 : w120[4]? = some (bA E (a 4) 260 tf) := by rw [hw121]; exact set_ne k21 (by decide)
          have k124 : w120[0]? = some (ob (a 0) 11 [.ref (a 1), .ref (a 2), .ref (a 3), .ref (a 4), .int (nI tp), .int (nI (pl26 + 1)), .int (nI le), .int v64, .int nu60, .int v65, .int (nI cm27), .int (nI wt), .int (nI sm), .int (nI (cd.2.2.2.2.2)), .ref (a 5), .ref (a 6), .ref (a 7), .ref (a 8), .ref (a 9), .ref (a 10), .ref (a 11), .ref (a 12), .ref (a 13), .ref (a 14), .ref (a 15), .ref (a 16), .ref (a 17), .int (nI lm), .ref (a 18), .ref (a 19), .ref (a 20), .ref (a 21), .int v66, .int v67, .int v68, .int v69, .int (nI n71), .int (nI n72), .ref (a 22), .ref (a 23), .ref (a 24), .ref (a 25), .ref (a 26), .ref (a 27), .ref (a 28), .ref (a 29), .ref (a 30), .int v70]) := by rw [hw121]; exact set_eq k76
          have k125 : w120[5]? = some (iA E (a 5) 260 fs28) := by rw [hw121]; exact set_ne k62 (by decide)
          have k126 : w120[6]? = some (iA E (a 6) 260 fw29) := by rw [hw121]; exact set_ne k63 (by decide)
          have kp127 := keeps_set kp22 hw121 (by first | exact rfl | decide | omega | (dsimp only; omega))
          refine x_aload_n C dX12_readsCompared_78 rfl 1 rfl rfl ?_
          refine x_vi C (As := []) (rest := []) (m_readsSum E l a cd hG w120 hW122 tp (pl26 + 1) le cm27 wt sm lm nu60 ⟨v64, v65, v66, v67, v68, v69, v70, n71, n72, ⟨by omega, by omega, by omega, by omega, by omega, by omega, by omega⟩, ⟨by omega, by omega⟩, zb75, k124⟩ tf k123 (by omega) fs28 k125 fw29 k126 W hs32 (cOps_n hco) c0 ((0 + 1)) hs34 (by omega) 1 (by omega) (by omega)) mf_X12_readsSum w_1328 0 k124 rfl rfl rfl (Nat.le_of_ble_eq_true rfl) ⟨(Nat.le_of_ble_eq_true rfl), (Nat.le_of_ble_eq_true rfl)⟩ ⟨(Nat.le_of_ble_eq_true rfl), (Nat.le_of_ble_eq_true rfl)⟩ dX12_readsCompared_79 rfl (fun r129 w130 h128 => ?_)
          obtain ⟨hW131, kq132, zb133, x134⟩ := h128
          have k135 : w130[4]? = some (bA E (a 4) 260 tf) := keeps_at kq132 k123 (by first | decide | omega | (dsimp only; omega))
          have kp136 := keeps_tr kp127 kq132 (fun q hq => by first | omega | (dsimp only at *; omega))
          rcases x134 with ⟨e137, rf138⟩ | ⟨e139, pl140, cm141, fs142, fw143, hs144, hs145, hs146, hs147, hs148, hs149, hs150⟩
          · refine x_top e137 ?_
            obtain ⟨pl151, cm152, wt153, fs154, fw155, rs156⟩ := rf138
            obtain ⟨⟨nu157, mo158⟩, k159, k160⟩ := rs156
            obtain ⟨v161, v162, v163, v164, v165, v166, v167, n168, n169, bo170, bo171, zb172, k173⟩ := mo158
            refine x_if_ne C (tgt := 87) dX12_readsCompared_82 (by decide) rfl (fun h => absurd h (by decide)) (fun _ => ?_)
            refine x_iconst C (v := 0) dX12_readsCompared_85 (by decide) rfl ?_
            exact x_zret C hr hlk rfl dX12_readsCompared_86 ⟨hW131, kp136, (Or.inl rfl), (Or.inl ⟨rfl, ⟨pl151, cm152, wt153, _, _, ⟨⟨_, ⟨v161, v162, v163, v164, v165, v166, v167, n168, n169, ⟨by omega, by omega, by omega, by omega, by omega, by omega, by omega⟩, ⟨by omega, by omega⟩, zb172, k173⟩⟩, k159, k160⟩⟩⟩)⟩
          · refine x_top e139 ?_
            obtain ⟨⟨nu174, mo175⟩, k176, k177⟩ := hs147
            obtain ⟨v178, v179, v180, v181, v182, v183, v184, n185, n186, bo187, bo188, zb189, k190⟩ := mo175
            refine x_if_ne C (tgt := 87) dX12_readsCompared_82 (by decide) rfl (fun _ => ?_) (fun h => absurd h (by decide))
            refine x_aload_n C dX12_readsCompared_87 rfl 1 rfl rfl ?_
            refine x_iload_n C dX12_readsCompared_88 rfl 0 rfl rfl ?_
            refine x_iconst C (v := 0) dX12_readsCompared_89 (by decide) rfl ?_
            refine x_vv C (As := [.int 9, .int 0]) (rest := []) (m_notes E l a cd hG w130 hW131 9 0 (by omega) (by omega) tp pl140 le cm141 wt sm lm nu174 ⟨v178, v179, v180, v181, v182, v183, v184, n185, n186, ⟨by omega, by omega, by omega, by omega, by omega, by omega, by omega⟩, ⟨by omega, by omega⟩, zb189, k190⟩ fs142 k176 (by omega)) mf_X12_notes w_1349 0 k190 rfl rfl rfl (Nat.le_of_ble_eq_true rfl) ⟨(Nat.le_of_ble_eq_true rfl), (Nat.le_of_ble_eq_true rfl)⟩ ⟨(Nat.le_of_ble_eq_true rfl), (Nat.le_of_ble_eq_true rfl)⟩ dX12_readsCompared_90 rfl (fun w193 h191 => ?_)
            obtain ⟨hW194, kq195, x196⟩ := h191
            have k197 : w193[4]? = some (bA E (a 4) 260 tf) := keeps_at kq195 k135 (by first | decide | omega | (dsimp only; omega))
            have k198 : w193[6]? = some (iA E (a 6) 260 fw143) := keeps_at kq195 k177 (by first | decide | omega | (dsimp only; omega))
            have kp199 := keeps_tr kp136 kq195 (fun q hq => by first | omega | (dsimp only at *; omega))
            obtain ⟨mo200, k201⟩ := x196
            obtain ⟨v202, v203, v204, v205, v206, v207, v208, n209, n210, bo211, bo212, zb213, k214⟩ := mo200
            have ci215 := CI_note (op := 9) (v := 0) (h' := 1) hs148 (by omega) (by omega) (by omega) (Or.inr (Or.inr (Or.inr ⟨by omega, by omega, by omega, by omega⟩)))
            refine x_aload_n C dX12_readsCompared_93 rfl 1 rfl rfl ?_
            refine x_vv C (As := []) (rest := []) (m_endsPiece E l a cd hG w193 hW194 tp pl140 le (cm141 + 1) wt sm lm nu174 ⟨v202, v203, v204, v205, v206, v207, v208, n209, n210, ⟨by omega, by omega, by omega, by omega, by omega, by omega, by omega⟩, ⟨by omega, by omega⟩, zb213, k214⟩ ((upd fs142 cm141 (nI (1048576 * 9 + 0)))) k201 fw143 k198 W hs146 c0 ci215 hco hbo (by omega)) mf_X12_endsPiece w_1379 0 k214 rfl rfl rfl (Nat.le_of_ble_eq_true rfl) ⟨(Nat.le_of_ble_eq_true rfl), (Nat.le_of_ble_eq_true rfl)⟩ ⟨(Nat.le_of_ble_eq_true rfl), (Nat.le_of_ble_eq_true rfl)⟩ dX12_readsCompared_94 rfl (fun w218 h216 => ?_)
            obtain ⟨hW219, kq220, x221⟩ := h216
            have k222 : w218[4]? = some (bA E (a 4) 260 tf) := keeps_at kq220 k197 (by first | decide | omega | (dsimp only; omega))
            have k223 : w218[6]? = some (iA E (a 6) 260 fw143) := keeps_at kq220 k198 (by first | decide | omega | (dsimp only; omega))
            have kp224 := keeps_tr kp199 kq220 (fun q hq => by first | omega | (dsimp only at *; omega))
            obtain ⟨cm225, wt226, fs227, We228, hc229, hc230, hc231, hc232, hc233, hc234, hc235, hc236, hc237⟩ := x221
            obtain ⟨v238, v239, v240, v241, v242, v243, v244, n245, n246, bo247, bo248, zb249, k250⟩ := hc231
            refine x_iconst C (v := 1) dX12_readsCompared_97 (by decide) rfl ?_
            exact x_zret C hr hlk rfl dX12_readsCompared_98 ⟨hW219, kp224, (Or.inr rfl), (Or.inr ⟨rfl, pl140, cm225, wt226, _, _, We228, by omega, by omega, hc229, by omega, ⟨⟨_, ⟨v238, v239, v240, v241, v242, v243, v244, n245, n246, ⟨by omega, by omega, by omega, by omega, by omega, by omega, by omega⟩, ⟨by omega, by omega⟩, zb249, k250⟩⟩, hc232, k223⟩, hc233, hc234, hc235, by omega, (fun k hk => (hc237 k hk).trans ((pk_un (by have q9 := CI_le hs148; omega)).trans ((hs150 k hk).trans (hs36 k hk))))⟩)⟩
      · skip
        have hp251 := hv_lt (x87.symm.trans c88) (by decide)
        refine x_bipush C (v := 8) dX12_readsCompared_32 (by decide) rfl ?_
        refine x_goto C (tgt := 52) dX12_readsCompared_34 (by decide) ?_
        refine x_istore_n C (lv' := [(1, .int 8), (0, .ref (a 0))]) dX12_readsCompared_52 rfl (by decide) rfl rfl ?_
        refine x_iload_n C dX12_readsCompared_53 rfl 0 rfl rfl ?_
        refine x_iconst C (v := (-1)) dX12_readsCompared_54 (by decide) rfl ?_
        refine x_icmp_ne C (tgt := 68) dX12_readsCompared_55 (by decide) rfl (fun _ => ?_) (fun h => absurd h (by decide))
        refine x_aload_n C dX12_readsCompared_68 rfl 1 rfl rfl ?_
        refine x_aload_n C dX12_readsCompared_69 rfl 1 rfl rfl ?_
        refine x_get C (ci := 11) (k := 5) 0 k76 rfl in_X12 (by decide) w_1123 rfl dX12_readsCompared_70 rfl ?_
        refine x_iconst C (v := 1) dX12_readsCompared_73 (by decide) rfl ?_
        refine x_iadd C (v := (nI (pl26 + 1))) dX12_readsCompared_74 (nI_add pl26 1) rfl ?_
        obtain ⟨w252, hw253⟩ : ∃ w : va_W, w = List.set w16 0 (ob (a 0) 11 [.ref (a 1), .ref (a 2), .ref (a 3), .ref (a 4), .int (nI tp), .int (nI (pl26 + 1)), .int (nI le), .int v64, .int nu60, .int v65, .int (nI cm27), .int (nI wt), .int (nI sm), .int (nI (cd.2.2.2.2.2)), .ref (a 5), .ref (a 6), .ref (a 7), .ref (a 8), .ref (a 9), .ref (a 10), .ref (a 11), .ref (a 12), .ref (a 13), .ref (a 14), .ref (a 15), .ref (a 16), .ref (a 17), .int (nI lm), .ref (a 18), .ref (a 19), .ref (a 20), .ref (a 21), .int v66, .int v67, .int v68, .int v69, .int (nI n71), .int (nI n72), .ref (a 22), .ref (a 23), .ref (a 24), .ref (a 25), .ref (a 26), .ref (a 27), .ref (a 28), .ref (a 29), .ref (a 30), .int v70]) := ⟨_, rfl⟩
        refine x_put C (ci := 11) (k := 5) (ty := .int) 0 k76 rfl in_X12 tyX12 tyX12_ok nmX12 (by decide) w_1123 rfl rfl rfl rfl (Nat.le_of_ble_eq_true rfl) hw253.symm dX12_readsCompared_75 rfl ?_
        have hW254 : WX (okM E a cd) w252 := by rw [hw253]; exact hW17.set (k := 0) rfl ⟨tp, (pl26 + 1), le, v64, nu60, v65, cm27, wt, sm, lm, v66, v67, v68, v69, n71, n72, v70, by omega, by omega, by omega, by omega, by omega, by omega, by omega, by omega, by omega, zb75, rfl⟩
        have k255 : w252[4]? = some (bA E (a 4) 260 tf) := by rw [hw253]; exact set_ne k21 (by decide)
        have k256 : w252[0]? = some (ob (a 0) 11 [.ref (a 1), .ref (a 2), .ref (a 3), .ref (a 4), .int (nI tp), .int (nI (pl26 + 1)), .int (nI le), .int v64, .int nu60, .int v65, .int (nI cm27), .int (nI wt), .int (nI sm), .int (nI (cd.2.2.2.2.2)), .ref (a 5), .ref (a 6), .ref (a 7), .ref (a 8), .ref (a 9), .ref (a 10), .ref (a 11), .ref (a 12), .ref (a 13), .ref (a 14), .ref (a 15), .ref (a 16), .ref (a 17), .int (nI lm), .ref (a 18), .ref (a 19), .ref (a 20), .ref (a 21), .int v66, .int v67, .int v68, .int v69, .int (nI n71), .int (nI n72), .ref (a 22), .ref (a 23), .ref (a 24), .ref (a 25), .ref (a 26), .ref (a 27), .ref (a 28), .ref (a 29), .ref (a 30), .int v70]) := by rw [hw253]; exact set_eq k76
        have k257 : w252[5]? = some (iA E (a 5) 260 fs28) := by rw [hw253]; exact set_ne k62 (by decide)
        have k258 : w252[6]? = some (iA E (a 6) 260 fw29) := by rw [hw253]; exact set_ne k63 (by decide)
        have kp259 := keeps_set kp22 hw253 (by first | exact rfl | decide | omega | (dsimp only; omega))
        refine x_aload_n C dX12_readsCompared_78 rfl 1 rfl rfl ?_
        refine x_vi C (As := []) (rest := []) (m_readsSum E l a cd hG w252 hW254 tp (pl26 + 1) le cm27 wt sm lm nu60 ⟨v64, v65, v66, v67, v68, v69, v70, n71, n72, ⟨by omega, by omega, by omega, by omega, by omega, by omega, by omega⟩, ⟨by omega, by omega⟩, zb75, k256⟩ tf k255 (by omega) fs28 k257 fw29 k258 W hs32 (cOps_n hco) c0 ((0 + 1)) hs34 (by omega) 1 (by omega) (by omega)) mf_X12_readsSum w_1328 0 k256 rfl rfl rfl (Nat.le_of_ble_eq_true rfl) ⟨(Nat.le_of_ble_eq_true rfl), (Nat.le_of_ble_eq_true rfl)⟩ ⟨(Nat.le_of_ble_eq_true rfl), (Nat.le_of_ble_eq_true rfl)⟩ dX12_readsCompared_79 rfl (fun r261 w262 h260 => ?_)
        obtain ⟨hW263, kq264, zb265, x266⟩ := h260
        have k267 : w262[4]? = some (bA E (a 4) 260 tf) := keeps_at kq264 k255 (by first | decide | omega | (dsimp only; omega))
        have kp268 := keeps_tr kp259 kq264 (fun q hq => by first | omega | (dsimp only at *; omega))
        rcases x266 with ⟨e269, rf270⟩ | ⟨e271, pl272, cm273, fs274, fw275, hs276, hs277, hs278, hs279, hs280, hs281, hs282⟩
        · refine x_top e269 ?_
          obtain ⟨pl283, cm284, wt285, fs286, fw287, rs288⟩ := rf270
          obtain ⟨⟨nu289, mo290⟩, k291, k292⟩ := rs288
          obtain ⟨v293, v294, v295, v296, v297, v298, v299, n300, n301, bo302, bo303, zb304, k305⟩ := mo290
          refine x_if_ne C (tgt := 87) dX12_readsCompared_82 (by decide) rfl (fun h => absurd h (by decide)) (fun _ => ?_)
          refine x_iconst C (v := 0) dX12_readsCompared_85 (by decide) rfl ?_
          exact x_zret C hr hlk rfl dX12_readsCompared_86 ⟨hW263, kp268, (Or.inl rfl), (Or.inl ⟨rfl, ⟨pl283, cm284, wt285, _, _, ⟨⟨_, ⟨v293, v294, v295, v296, v297, v298, v299, n300, n301, ⟨by omega, by omega, by omega, by omega, by omega, by omega, by omega⟩, ⟨by omega, by omega⟩, zb304, k305⟩⟩, k291, k292⟩⟩⟩)⟩
        · refine x_top e271 ?_
          obtain ⟨⟨nu306, mo307⟩, k308, k309⟩ := hs279
          obtain ⟨v310, v311, v312, v313, v314, v315, v316, n317, n318, bo319, bo320, zb321, k322⟩ := mo307
          refine x_if_ne C (tgt := 87) dX12_readsCompared_82 (by decide) rfl (fun _ => ?_) (fun h => absurd h (by decide))
          refine x_aload_n C dX12_readsCompared_87 rfl 1 rfl rfl ?_
          refine x_iload_n C dX12_readsCompared_88 rfl 0 rfl rfl ?_
          refine x_iconst C (v := 0) dX12_readsCompared_89 (by decide) rfl ?_
          refine x_vv C (As := [.int 8, .int 0]) (rest := []) (m_notes E l a cd hG w262 hW263 8 0 (by omega) (by omega) tp pl272 le cm273 wt sm lm nu306 ⟨v310, v311, v312, v313, v314, v315, v316, n317, n318, ⟨by omega, by omega, by omega, by omega, by omega, by omega, by omega⟩, ⟨by omega, by omega⟩, zb321, k322⟩ fs274 k308 (by omega)) mf_X12_notes w_1349 0 k322 rfl rfl rfl (Nat.le_of_ble_eq_true rfl) ⟨(Nat.le_of_ble_eq_true rfl), (Nat.le_of_ble_eq_true rfl)⟩ ⟨(Nat.le_of_ble_eq_true rfl), (Nat.le_of_ble_eq_true rfl)⟩ dX12_readsCompared_90 rfl (fun w325 h323 => ?_)
          obtain ⟨hW326, kq327, x328⟩ := h323
          have k329 : w325[4]? = some (bA E (a 4) 260 tf) := keeps_at kq327 k267 (by first | decide | omega | (dsimp only; omega))
          have k330 : w325[6]? = some (iA E (a 6) 260 fw275) := keeps_at kq327 k309 (by first | decide | omega | (dsimp only; omega))
          have kp331 := keeps_tr kp268 kq327 (fun q hq => by first | omega | (dsimp only at *; omega))
          obtain ⟨mo332, k333⟩ := x328
          obtain ⟨v334, v335, v336, v337, v338, v339, v340, n341, n342, bo343, bo344, zb345, k346⟩ := mo332
          have ci347 := CI_note (op := 8) (v := 0) (h' := 1) hs280 (by omega) (by omega) (by omega) (Or.inr (Or.inr (Or.inr ⟨by omega, by omega, by omega, by omega⟩)))
          refine x_aload_n C dX12_readsCompared_93 rfl 1 rfl rfl ?_
          refine x_vv C (As := []) (rest := []) (m_endsPiece E l a cd hG w325 hW326 tp pl272 le (cm273 + 1) wt sm lm nu306 ⟨v334, v335, v336, v337, v338, v339, v340, n341, n342, ⟨by omega, by omega, by omega, by omega, by omega, by omega, by omega⟩, ⟨by omega, by omega⟩, zb345, k346⟩ ((upd fs274 cm273 (nI (1048576 * 8 + 0)))) k333 fw275 k330 W hs278 c0 ci347 hco hbo (by omega)) mf_X12_endsPiece w_1379 0 k346 rfl rfl rfl (Nat.le_of_ble_eq_true rfl) ⟨(Nat.le_of_ble_eq_true rfl), (Nat.le_of_ble_eq_true rfl)⟩ ⟨(Nat.le_of_ble_eq_true rfl), (Nat.le_of_ble_eq_true rfl)⟩ dX12_readsCompared_94 rfl (fun w350 h348 => ?_)
          obtain ⟨hW351, kq352, x353⟩ := h348
          have k354 : w350[4]? = some (bA E (a 4) 260 tf) := keeps_at kq352 k329 (by first | decide | omega | (dsimp only; omega))
          have k355 : w350[6]? = some (iA E (a 6) 260 fw275) := keeps_at kq352 k330 (by first | decide | omega | (dsimp only; omega))
          have kp356 := keeps_tr kp331 kq352 (fun q hq => by first | omega | (dsimp only at *; omega))
          obtain ⟨cm357, wt358, fs359, We360, hc361, hc362, hc363, hc364, hc365, hc366, hc367, hc368, hc369⟩ := x353
          obtain ⟨v370, v371, v372, v373, v374, v375, v376, n377, n378, bo379, bo380, zb381, k382⟩ := hc363
          refine x_iconst C (v := 1) dX12_readsCompared_97 (by decide) rfl ?_
          exact x_zret C hr hlk rfl dX12_readsCompared_98 ⟨hW351, kp356, (Or.inr rfl), (Or.inr ⟨rfl, pl272, cm357, wt358, _, _, We360, by omega, by omega, hc361, by omega, ⟨⟨_, ⟨v370, v371, v372, v373, v374, v375, v376, n377, n378, ⟨by omega, by omega, by omega, by omega, by omega, by omega, by omega⟩, ⟨by omega, by omega⟩, zb381, k382⟩⟩, hc364, k355⟩, hc365, hc366, hc367, by omega, (fun k hk => (hc369 k hk).trans ((pk_un (by have q9 := CI_le hs280; omega)).trans ((hs282 k hk).trans (hs36 k hk))))⟩)⟩
    · skip
      have hp383 := hv_lt (x81.symm.trans c82) (by decide)
      refine x_bipush C (v := 7) dX12_readsCompared_18 (by decide) rfl ?_
      refine x_goto C (tgt := 52) dX12_readsCompared_20 (by decide) ?_
      refine x_istore_n C (lv' := [(1, .int 7), (0, .ref (a 0))]) dX12_readsCompared_52 rfl (by decide) rfl rfl ?_
      refine x_iload_n C dX12_readsCompared_53 rfl 0 rfl rfl ?_
      refine x_iconst C (v := (-1)) dX12_readsCompared_54 (by decide) rfl ?_
      refine x_icmp_ne C (tgt := 68) dX12_readsCompared_55 (by decide) rfl (fun _ => ?_) (fun h => absurd h (by decide))
      refine x_aload_n C dX12_readsCompared_68 rfl 1 rfl rfl ?_
      refine x_aload_n C dX12_readsCompared_69 rfl 1 rfl rfl ?_
      refine x_get C (ci := 11) (k := 5) 0 k76 rfl in_X12 (by decide) w_1123 rfl dX12_readsCompared_70 rfl ?_
      refine x_iconst C (v := 1) dX12_readsCompared_73 (by decide) rfl ?_
      refine x_iadd C (v := (nI (pl26 + 1))) dX12_readsCompared_74 (nI_add pl26 1) rfl ?_
      obtain ⟨w384, hw385⟩ : ∃ w : va_W, w = List.set w16 0 (ob (a 0) 11 [.ref (a 1), .ref (a 2), .ref (a 3), .ref (a 4), .int (nI tp), .int (nI (pl26 + 1)), .int (nI le), .int v64, .int nu60, .int v65, .int (nI cm27), .int (nI wt), .int (nI sm), .int (nI (cd.2.2.2.2.2)), .ref (a 5), .ref (a 6), .ref (a 7), .ref (a 8), .ref (a 9), .ref (a 10), .ref (a 11), .ref (a 12), .ref (a 13), .ref (a 14), .ref (a 15), .ref (a 16), .ref (a 17), .int (nI lm), .ref (a 18), .ref (a 19), .ref (a 20), .ref (a 21), .int v66, .int v67, .int v68, .int v69, .int (nI n71), .int (nI n72), .ref (a 22), .ref (a 23), .ref (a 24), .ref (a 25), .ref (a 26), .ref (a 27), .ref (a 28), .ref (a 29), .ref (a 30), .int v70]) := ⟨_, rfl⟩
      refine x_put C (ci := 11) (k := 5) (ty := .int) 0 k76 rfl in_X12 tyX12 tyX12_ok nmX12 (by decide) w_1123 rfl rfl rfl rfl (Nat.le_of_ble_eq_true rfl) hw385.symm dX12_readsCompared_75 rfl ?_
      have hW386 : WX (okM E a cd) w384 := by rw [hw385]; exact hW17.set (k := 0) rfl ⟨tp, (pl26 + 1), le, v64, nu60, v65, cm27, wt, sm, lm, v66, v67, v68, v69, n71, n72, v70, by omega, by omega, by omega, by omega, by omega, by omega, by omega, by omega, by omega, zb75, rfl⟩
      have k387 : w384[4]? = some (bA E (a 4) 260 tf) := by rw [hw385]; exact set_ne k21 (by decide)
      have k388 : w384[0]? = some (ob (a 0) 11 [.ref (a 1), .ref (a 2), .ref (a 3), .ref (a 4), .int (nI tp), .int (nI (pl26 + 1)), .int (nI le), .int v64, .int nu60, .int v65, .int (nI cm27), .int (nI wt), .int (nI sm), .int (nI (cd.2.2.2.2.2)), .ref (a 5), .ref (a 6), .ref (a 7), .ref (a 8), .ref (a 9), .ref (a 10), .ref (a 11), .ref (a 12), .ref (a 13), .ref (a 14), .ref (a 15), .ref (a 16), .ref (a 17), .int (nI lm), .ref (a 18), .ref (a 19), .ref (a 20), .ref (a 21), .int v66, .int v67, .int v68, .int v69, .int (nI n71), .int (nI n72), .ref (a 22), .ref (a 23), .ref (a 24), .ref (a 25), .ref (a 26), .ref (a 27), .ref (a 28), .ref (a 29), .ref (a 30), .int v70]) := by rw [hw385]; exact set_eq k76
      have k389 : w384[5]? = some (iA E (a 5) 260 fs28) := by rw [hw385]; exact set_ne k62 (by decide)
      have k390 : w384[6]? = some (iA E (a 6) 260 fw29) := by rw [hw385]; exact set_ne k63 (by decide)
      have kp391 := keeps_set kp22 hw385 (by first | exact rfl | decide | omega | (dsimp only; omega))
      refine x_aload_n C dX12_readsCompared_78 rfl 1 rfl rfl ?_
      refine x_vi C (As := []) (rest := []) (m_readsSum E l a cd hG w384 hW386 tp (pl26 + 1) le cm27 wt sm lm nu60 ⟨v64, v65, v66, v67, v68, v69, v70, n71, n72, ⟨by omega, by omega, by omega, by omega, by omega, by omega, by omega⟩, ⟨by omega, by omega⟩, zb75, k388⟩ tf k387 (by omega) fs28 k389 fw29 k390 W hs32 (cOps_n hco) c0 ((0 + 1)) hs34 (by omega) 1 (by omega) (by omega)) mf_X12_readsSum w_1328 0 k388 rfl rfl rfl (Nat.le_of_ble_eq_true rfl) ⟨(Nat.le_of_ble_eq_true rfl), (Nat.le_of_ble_eq_true rfl)⟩ ⟨(Nat.le_of_ble_eq_true rfl), (Nat.le_of_ble_eq_true rfl)⟩ dX12_readsCompared_79 rfl (fun r393 w394 h392 => ?_)
      obtain ⟨hW395, kq396, zb397, x398⟩ := h392
      have k399 : w394[4]? = some (bA E (a 4) 260 tf) := keeps_at kq396 k387 (by first | decide | omega | (dsimp only; omega))
      have kp400 := keeps_tr kp391 kq396 (fun q hq => by first | omega | (dsimp only at *; omega))
      rcases x398 with ⟨e401, rf402⟩ | ⟨e403, pl404, cm405, fs406, fw407, hs408, hs409, hs410, hs411, hs412, hs413, hs414⟩
      · refine x_top e401 ?_
        obtain ⟨pl415, cm416, wt417, fs418, fw419, rs420⟩ := rf402
        obtain ⟨⟨nu421, mo422⟩, k423, k424⟩ := rs420
        obtain ⟨v425, v426, v427, v428, v429, v430, v431, n432, n433, bo434, bo435, zb436, k437⟩ := mo422
        refine x_if_ne C (tgt := 87) dX12_readsCompared_82 (by decide) rfl (fun h => absurd h (by decide)) (fun _ => ?_)
        refine x_iconst C (v := 0) dX12_readsCompared_85 (by decide) rfl ?_
        exact x_zret C hr hlk rfl dX12_readsCompared_86 ⟨hW395, kp400, (Or.inl rfl), (Or.inl ⟨rfl, ⟨pl415, cm416, wt417, _, _, ⟨⟨_, ⟨v425, v426, v427, v428, v429, v430, v431, n432, n433, ⟨by omega, by omega, by omega, by omega, by omega, by omega, by omega⟩, ⟨by omega, by omega⟩, zb436, k437⟩⟩, k423, k424⟩⟩⟩)⟩
      · refine x_top e403 ?_
        obtain ⟨⟨nu438, mo439⟩, k440, k441⟩ := hs411
        obtain ⟨v442, v443, v444, v445, v446, v447, v448, n449, n450, bo451, bo452, zb453, k454⟩ := mo439
        refine x_if_ne C (tgt := 87) dX12_readsCompared_82 (by decide) rfl (fun _ => ?_) (fun h => absurd h (by decide))
        refine x_aload_n C dX12_readsCompared_87 rfl 1 rfl rfl ?_
        refine x_iload_n C dX12_readsCompared_88 rfl 0 rfl rfl ?_
        refine x_iconst C (v := 0) dX12_readsCompared_89 (by decide) rfl ?_
        refine x_vv C (As := [.int 7, .int 0]) (rest := []) (m_notes E l a cd hG w394 hW395 7 0 (by omega) (by omega) tp pl404 le cm405 wt sm lm nu438 ⟨v442, v443, v444, v445, v446, v447, v448, n449, n450, ⟨by omega, by omega, by omega, by omega, by omega, by omega, by omega⟩, ⟨by omega, by omega⟩, zb453, k454⟩ fs406 k440 (by omega)) mf_X12_notes w_1349 0 k454 rfl rfl rfl (Nat.le_of_ble_eq_true rfl) ⟨(Nat.le_of_ble_eq_true rfl), (Nat.le_of_ble_eq_true rfl)⟩ ⟨(Nat.le_of_ble_eq_true rfl), (Nat.le_of_ble_eq_true rfl)⟩ dX12_readsCompared_90 rfl (fun w457 h455 => ?_)
        obtain ⟨hW458, kq459, x460⟩ := h455
        have k461 : w457[4]? = some (bA E (a 4) 260 tf) := keeps_at kq459 k399 (by first | decide | omega | (dsimp only; omega))
        have k462 : w457[6]? = some (iA E (a 6) 260 fw407) := keeps_at kq459 k441 (by first | decide | omega | (dsimp only; omega))
        have kp463 := keeps_tr kp400 kq459 (fun q hq => by first | omega | (dsimp only at *; omega))
        obtain ⟨mo464, k465⟩ := x460
        obtain ⟨v466, v467, v468, v469, v470, v471, v472, n473, n474, bo475, bo476, zb477, k478⟩ := mo464
        have ci479 := CI_note (op := 7) (v := 0) (h' := 1) hs412 (by omega) (by omega) (by omega) (Or.inr (Or.inr (Or.inr ⟨by omega, by omega, by omega, by omega⟩)))
        refine x_aload_n C dX12_readsCompared_93 rfl 1 rfl rfl ?_
        refine x_vv C (As := []) (rest := []) (m_endsPiece E l a cd hG w457 hW458 tp pl404 le (cm405 + 1) wt sm lm nu438 ⟨v466, v467, v468, v469, v470, v471, v472, n473, n474, ⟨by omega, by omega, by omega, by omega, by omega, by omega, by omega⟩, ⟨by omega, by omega⟩, zb477, k478⟩ ((upd fs406 cm405 (nI (1048576 * 7 + 0)))) k465 fw407 k462 W hs410 c0 ci479 hco hbo (by omega)) mf_X12_endsPiece w_1379 0 k478 rfl rfl rfl (Nat.le_of_ble_eq_true rfl) ⟨(Nat.le_of_ble_eq_true rfl), (Nat.le_of_ble_eq_true rfl)⟩ ⟨(Nat.le_of_ble_eq_true rfl), (Nat.le_of_ble_eq_true rfl)⟩ dX12_readsCompared_94 rfl (fun w482 h480 => ?_)
        obtain ⟨hW483, kq484, x485⟩ := h480
        have k486 : w482[4]? = some (bA E (a 4) 260 tf) := keeps_at kq484 k461 (by first | decide | omega | (dsimp only; omega))
        have k487 : w482[6]? = some (iA E (a 6) 260 fw407) := keeps_at kq484 k462 (by first | decide | omega | (dsimp only; omega))
        have kp488 := keeps_tr kp463 kq484 (fun q hq => by first | omega | (dsimp only at *; omega))
        obtain ⟨cm489, wt490, fs491, We492, hc493, hc494, hc495, hc496, hc497, hc498, hc499, hc500, hc501⟩ := x485
        obtain ⟨v502, v503, v504, v505, v506, v507, v508, n509, n510, bo511, bo512, zb513, k514⟩ := hc495
        refine x_iconst C (v := 1) dX12_readsCompared_97 (by decide) rfl ?_
        exact x_zret C hr hlk rfl dX12_readsCompared_98 ⟨hW483, kp488, (Or.inr rfl), (Or.inr ⟨rfl, pl404, cm489, wt490, _, _, We492, by omega, by omega, hc493, by omega, ⟨⟨_, ⟨v502, v503, v504, v505, v506, v507, v508, n509, n510, ⟨by omega, by omega, by omega, by omega, by omega, by omega, by omega⟩, ⟨by omega, by omega⟩, zb513, k514⟩⟩, hc496, k487⟩, hc497, hc498, hc499, by omega, (fun k hk => (hc501 k hk).trans ((pk_un (by have q9 := CI_le hs412; omega)).trans ((hs414 k hk).trans (hs36 k hk))))⟩)⟩
theorem dX12_readsCondition_0 : decode cX12_readsCondition 0 = .ok (.aload_n 0, 1) := by decide +kernel
theorem dX12_readsCondition_1 : decode cX12_readsCondition 1 = .ok (.invokevirtual 137, 3) := by decide +kernel
theorem dX12_readsCondition_4 : decode cX12_readsCondition 4 = .ok (.bipush 40, 2) := by decide +kernel
theorem dX12_readsCondition_6 : decode cX12_readsCondition 6 = .ok (.if_icmp .eq 13, 3) := by decide +kernel
theorem dX12_readsCondition_9 : decode cX12_readsCondition 9 = .ok (.aload_n 0, 1) := by decide +kernel
theorem dX12_readsCondition_10 : decode cX12_readsCondition 10 = .ok (.iconst 1, 1) := by decide +kernel
theorem dX12_readsCondition_11 : decode cX12_readsCondition 11 = .ok (.aload_n 0, 1) := by decide +kernel
theorem dX12_readsCondition_12 : decode cX12_readsCondition 12 = .ok (.getfield 131, 3) := by decide +kernel
theorem dX12_readsCondition_15 : decode cX12_readsCondition 15 = .ok (.invokevirtual 144, 3) := by decide +kernel
theorem dX12_readsCondition_18 : decode cX12_readsCondition 18 = .ok (.ireturn, 1) := by decide +kernel
theorem dX12_readsCondition_19 : decode cX12_readsCondition 19 = .ok (.aload_n 0, 1) := by decide +kernel
theorem dX12_readsCondition_20 : decode cX12_readsCondition 20 = .ok (.iconst 0, 1) := by decide +kernel
theorem dX12_readsCondition_21 : decode cX12_readsCondition 21 = .ok (.putfield 158, 3) := by decide +kernel
theorem dX12_readsCondition_24 : decode cX12_readsCondition 24 = .ok (.aload_n 0, 1) := by decide +kernel
theorem dX12_readsCondition_25 : decode cX12_readsCondition 25 = .ok (.iconst 0, 1) := by decide +kernel
theorem dX12_readsCondition_26 : decode cX12_readsCondition 26 = .ok (.putfield 161, 3) := by decide +kernel
theorem dX12_readsCondition_29 : decode cX12_readsCondition 29 = .ok (.aload_n 0, 1) := by decide +kernel
theorem dX12_readsCondition_30 : decode cX12_readsCondition 30 = .ok (.bipush 13, 2) := by decide +kernel
theorem dX12_readsCondition_32 : decode cX12_readsCondition 32 = .ok (.invokevirtual 170, 3) := by decide +kernel
theorem dX12_readsCondition_35 : decode cX12_readsCondition 35 = .ok (.ifCond .ne 5, 3) := by decide +kernel
theorem dX12_readsCondition_38 : decode cX12_readsCondition 38 = .ok (.iconst 0, 1) := by decide +kernel
theorem dX12_readsCondition_39 : decode cX12_readsCondition 39 = .ok (.ireturn, 1) := by decide +kernel
theorem dX12_readsCondition_40 : decode cX12_readsCondition 40 = .ok (.aload_n 0, 1) := by decide +kernel
theorem dX12_readsCondition_41 : decode cX12_readsCondition 41 = .ok (.invokevirtual 137, 3) := by decide +kernel
theorem dX12_readsCondition_44 : decode cX12_readsCondition 44 = .ok (.bipush 33, 2) := by decide +kernel
theorem dX12_readsCondition_46 : decode cX12_readsCondition 46 = .ok (.if_icmp .eq 12, 3) := by decide +kernel
theorem dX12_readsCondition_49 : decode cX12_readsCondition 49 = .ok (.aload_n 0, 1) := by decide +kernel
theorem dX12_readsCondition_50 : decode cX12_readsCondition 50 = .ok (.invokevirtual 137, 3) := by decide +kernel
theorem dX12_readsCondition_53 : decode cX12_readsCondition 53 = .ok (.bipush 40, 2) := by decide +kernel
theorem dX12_readsCondition_55 : decode cX12_readsCondition 55 = .ok (.if_icmp .ne 28, 3) := by decide +kernel
theorem dX12_readsCondition_58 : decode cX12_readsCondition 58 = .ok (.aload_n 0, 1) := by decide +kernel
theorem dX12_readsCondition_59 : decode cX12_readsCondition 59 = .ok (.aload_n 0, 1) := by decide +kernel
theorem dX12_readsCondition_60 : decode cX12_readsCondition 60 = .ok (.invokevirtual 137, 3) := by decide +kernel
theorem dX12_readsCondition_63 : decode cX12_readsCondition 63 = .ok (.bipush 33, 2) := by decide +kernel
theorem dX12_readsCondition_65 : decode cX12_readsCondition 65 = .ok (.if_icmp .ne 8, 3) := by decide +kernel
theorem dX12_readsCondition_68 : decode cX12_readsCondition 68 = .ok (.bipush 10, 2) := by decide +kernel
theorem dX12_readsCondition_70 : decode cX12_readsCondition 70 = .ok (.goto 5, 3) := by decide +kernel
theorem dX12_readsCondition_73 : decode cX12_readsCondition 73 = .ok (.bipush 13, 2) := by decide +kernel
theorem dX12_readsCondition_75 : decode cX12_readsCondition 75 = .ok (.invokevirtual 170, 3) := by decide +kernel
theorem dX12_readsCondition_78 : decode cX12_readsCondition 78 = .ok (.ifCond .ne (-38), 3) := by decide +kernel
theorem dX12_readsCondition_81 : decode cX12_readsCondition 81 = .ok (.iconst 0, 1) := by decide +kernel
theorem dX12_readsCondition_82 : decode cX12_readsCondition 82 = .ok (.ireturn, 1) := by decide +kernel
theorem dX12_readsCondition_83 : decode cX12_readsCondition 83 = .ok (.aload_n 0, 1) := by decide +kernel
theorem dX12_readsCondition_84 : decode cX12_readsCondition 84 = .ok (.invokevirtual 199, 3) := by decide +kernel
theorem dX12_readsCondition_87 : decode cX12_readsCondition 87 = .ok (.ifCond .ne 5, 3) := by decide +kernel
theorem dX12_readsCondition_90 : decode cX12_readsCondition 90 = .ok (.iconst 0, 1) := by decide +kernel
theorem dX12_readsCondition_91 : decode cX12_readsCondition 91 = .ok (.ireturn, 1) := by decide +kernel
theorem dX12_readsCondition_92 : decode cX12_readsCondition 92 = .ok (.aload_n 0, 1) := by decide +kernel
theorem dX12_readsCondition_93 : decode cX12_readsCondition 93 = .ok (.invokevirtual 137, 3) := by decide +kernel
theorem dX12_readsCondition_96 : decode cX12_readsCondition 96 = .ok (.bipush 41, 2) := by decide +kernel
theorem dX12_readsCondition_98 : decode cX12_readsCondition 98 = .ok (.if_icmp .ne 54, 3) := by decide +kernel
theorem dX12_readsCondition_101 : decode cX12_readsCondition 101 = .ok (.aload_n 0, 1) := by decide +kernel
theorem dX12_readsCondition_102 : decode cX12_readsCondition 102 = .ok (.iconst 1, 1) := by decide +kernel
theorem dX12_readsCondition_103 : decode cX12_readsCondition 103 = .ok (.invokevirtual 202, 3) := by decide +kernel
theorem dX12_readsCondition_106 : decode cX12_readsCondition 106 = .ok (.aload_n 0, 1) := by decide +kernel
theorem dX12_readsCondition_107 : decode cX12_readsCondition 107 = .ok (.aload_n 0, 1) := by decide +kernel
theorem dX12_readsCondition_108 : decode cX12_readsCondition 108 = .ok (.getfield 161, 3) := by decide +kernel
theorem dX12_readsCondition_111 : decode cX12_readsCondition 111 = .ok (.iconst 1, 1) := by decide +kernel
theorem dX12_readsCondition_112 : decode cX12_readsCondition 112 = .ok (.isub, 1) := by decide +kernel
theorem dX12_readsCondition_113 : decode cX12_readsCondition 113 = .ok (.putfield 161, 3) := by decide +kernel
theorem dX12_readsCondition_116 : decode cX12_readsCondition 116 = .ok (.aload_n 0, 1) := by decide +kernel
theorem dX12_readsCondition_117 : decode cX12_readsCondition 117 = .ok (.aload_n 0, 1) := by decide +kernel
theorem dX12_readsCondition_118 : decode cX12_readsCondition 118 = .ok (.getfield 158, 3) := by decide +kernel
theorem dX12_readsCondition_121 : decode cX12_readsCondition 121 = .ok (.iconst 1, 1) := by decide +kernel
theorem dX12_readsCondition_122 : decode cX12_readsCondition 122 = .ok (.isub, 1) := by decide +kernel
theorem dX12_readsCondition_123 : decode cX12_readsCondition 123 = .ok (.putfield 158, 3) := by decide +kernel
theorem dX12_readsCondition_126 : decode cX12_readsCondition 126 = .ok (.aload_n 0, 1) := by decide +kernel
theorem dX12_readsCondition_127 : decode cX12_readsCondition 127 = .ok (.aload_n 0, 1) := by decide +kernel
theorem dX12_readsCondition_128 : decode cX12_readsCondition 128 = .ok (.getfield 131, 3) := by decide +kernel
theorem dX12_readsCondition_131 : decode cX12_readsCondition 131 = .ok (.iconst 1, 1) := by decide +kernel
theorem dX12_readsCondition_132 : decode cX12_readsCondition 132 = .ok (.iadd, 1) := by decide +kernel
theorem dX12_readsCondition_133 : decode cX12_readsCondition 133 = .ok (.putfield 131, 3) := by decide +kernel
theorem dX12_readsCondition_136 : decode cX12_readsCondition 136 = .ok (.aload_n 0, 1) := by decide +kernel
theorem dX12_readsCondition_137 : decode cX12_readsCondition 137 = .ok (.getfield 161, 3) := by decide +kernel
theorem dX12_readsCondition_140 : decode cX12_readsCondition 140 = .ok (.ifCond .ne 5, 3) := by decide +kernel
theorem dX12_readsCondition_143 : decode cX12_readsCondition 143 = .ok (.iconst 1, 1) := by decide +kernel
theorem dX12_readsCondition_144 : decode cX12_readsCondition 144 = .ok (.ireturn, 1) := by decide +kernel
theorem dX12_readsCondition_145 : decode cX12_readsCondition 145 = .ok (.aload_n 0, 1) := by decide +kernel
theorem dX12_readsCondition_146 : decode cX12_readsCondition 146 = .ok (.invokevirtual 196, 3) := by decide +kernel
theorem dX12_readsCondition_149 : decode cX12_readsCondition 149 = .ok (.goto (-57), 3) := by decide +kernel
theorem dX12_readsCondition_152 : decode cX12_readsCondition 152 = .ok (.aload_n 0, 1) := by decide +kernel
theorem dX12_readsCondition_153 : decode cX12_readsCondition 153 = .ok (.invokevirtual 137, 3) := by decide +kernel
theorem dX12_readsCondition_156 : decode cX12_readsCondition 156 = .ok (.bipush 38, 2) := by decide +kernel
theorem dX12_readsCondition_158 : decode cX12_readsCondition 158 = .ok (.if_icmp .eq 22, 3) := by decide +kernel
theorem dX12_readsCondition_161 : decode cX12_readsCondition 161 = .ok (.aload_n 0, 1) := by decide +kernel
theorem dX12_readsCondition_162 : decode cX12_readsCondition 162 = .ok (.invokevirtual 137, 3) := by decide +kernel
theorem dX12_readsCondition_165 : decode cX12_readsCondition 165 = .ok (.bipush 124, 2) := by decide +kernel
theorem dX12_readsCondition_167 : decode cX12_readsCondition 167 = .ok (.if_icmp .eq 13, 3) := by decide +kernel
theorem dX12_readsCondition_170 : decode cX12_readsCondition 170 = .ok (.aload_n 0, 1) := by decide +kernel
theorem dX12_readsCondition_171 : decode cX12_readsCondition 171 = .ok (.iconst 1, 1) := by decide +kernel
theorem dX12_readsCondition_172 : decode cX12_readsCondition 172 = .ok (.aload_n 0, 1) := by decide +kernel
theorem dX12_readsCondition_173 : decode cX12_readsCondition 173 = .ok (.getfield 131, 3) := by decide +kernel
theorem dX12_readsCondition_176 : decode cX12_readsCondition 176 = .ok (.invokevirtual 144, 3) := by decide +kernel
theorem dX12_readsCondition_179 : decode cX12_readsCondition 179 = .ok (.ireturn, 1) := by decide +kernel
theorem dX12_readsCondition_180 : decode cX12_readsCondition 180 = .ok (.aload_n 0, 1) := by decide +kernel
theorem dX12_readsCondition_181 : decode cX12_readsCondition 181 = .ok (.aload_n 0, 1) := by decide +kernel
theorem dX12_readsCondition_182 : decode cX12_readsCondition 182 = .ok (.invokevirtual 137, 3) := by decide +kernel
theorem dX12_readsCondition_185 : decode cX12_readsCondition 185 = .ok (.bipush 124, 2) := by decide +kernel
theorem dX12_readsCondition_187 : decode cX12_readsCondition 187 = .ok (.if_icmp .ne 7, 3) := by decide +kernel
theorem dX12_readsCondition_190 : decode cX12_readsCondition 190 = .ok (.iconst 1, 1) := by decide +kernel
theorem dX12_readsCondition_191 : decode cX12_readsCondition 191 = .ok (.goto 4, 3) := by decide +kernel
theorem dX12_readsCondition_194 : decode cX12_readsCondition 194 = .ok (.iconst 0, 1) := by decide +kernel
theorem dX12_readsCondition_195 : decode cX12_readsCondition 195 = .ok (.invokevirtual 202, 3) := by decide +kernel
theorem dX12_readsCondition_198 : decode cX12_readsCondition 198 = .ok (.aload_n 0, 1) := by decide +kernel
theorem dX12_readsCondition_199 : decode cX12_readsCondition 199 = .ok (.aload_n 0, 1) := by decide +kernel
theorem dX12_readsCondition_200 : decode cX12_readsCondition 200 = .ok (.invokevirtual 137, 3) := by decide +kernel
theorem dX12_readsCondition_203 : decode cX12_readsCondition 203 = .ok (.bipush 38, 2) := by decide +kernel
theorem dX12_readsCondition_205 : decode cX12_readsCondition 205 = .ok (.if_icmp .ne 8, 3) := by decide +kernel
theorem dX12_readsCondition_208 : decode cX12_readsCondition 208 = .ok (.bipush 11, 2) := by decide +kernel
theorem dX12_readsCondition_210 : decode cX12_readsCondition 210 = .ok (.goto 5, 3) := by decide +kernel
theorem dX12_readsCondition_213 : decode cX12_readsCondition 213 = .ok (.bipush 12, 2) := by decide +kernel
theorem dX12_readsCondition_215 : decode cX12_readsCondition 215 = .ok (.invokevirtual 205, 3) := by decide +kernel
theorem dX12_readsCondition_218 : decode cX12_readsCondition 218 = .ok (.goto (-178), 3) := by decide +kernel
set_option maxRecDepth 20000 in
set_option maxHeartbeats 4000000 in
theorem m_readsCondition (E : xE) (l : Launch) (a : Nat → Nat) (cd : Cd) (hG : Good cd) (ws : va_W) (hW : WX (okM E a cd) ws) (tp pl le cm wt sm lm : Nat) (nu : Int32) (h0 : MO a cd ws tp pl le cm wt sm lm nu) (tf : Nat → Int32) (htf : ws[4]? = some (bA E (a 4) 260 tf)) (hpl : pl ≤ le) (fs : Nat → Int32) (hfs : ws[5]? = some (iA E (a 5) 260 fs)) (fw : Nat → Int32) (hfw : ws[6]? = some (iA E (a 6) 260 fw)) (hcm : cm ≤ pl) : xI E l yX12_readsCondition cX12_readsCondition 1 (some .boolean) 6 [.ref (a 0)] ws (fun r w => WX (okM E a cd) w ∧ keeps ws w (fun q => q = 0 ∨ q = 5 ∨ q = 6) ∧ zb r ∧ ((r = 0 ∧ RF E a cd w tp le sm lm) ∨ (r = 1 ∧ ∃ (pl2 cm2 : Nat) (fs2 fw2 : Nat → Int32), pl < pl2 ∧ pl2 ≤ le ∧ RS E a cd w tp pl2 le cm2 0 sm lm fs2 fw2 ∧ cSeg fs2 cm cm2 ∧ cm2 ≤ pl2 ∧ ∀ k, k < cm → fs2 k = fs k))) := by
  refine xI_start (lv := [(0, .ref (a 0))]) RX12 (by decide) rfl (Nat.le_of_ble_eq_true rfl) rfl (fun p e s m below meth c A C hr hlk => ?_)
  have kp0 : keeps ws ws (fun q => q = 0 ∨ q = 5 ∨ q = 6) := keeps_rf
  obtain ⟨v1, v2, v3, v4, v5, v6, v7, n8, n9, bo10, bo11, zb12, k13⟩ := h0
  refine x_aload_n C dX12_readsCondition_0 rfl 0 rfl rfl ?_
  refine x_vi C (As := []) (rest := []) (m_here E l a cd hG ws hW tp pl le cm wt sm lm nu ⟨v1, v2, v3, v4, v5, v6, v7, n8, n9, ⟨by omega, by omega, by omega, by omega, by omega, by omega, by omega⟩, ⟨by omega, by omega⟩, zb12, k13⟩ tf htf) mf_X12_here w_1317 0 k13 rfl rfl rfl (Nat.le_of_ble_eq_true rfl) ⟨(Nat.le_of_ble_eq_true rfl), (Nat.le_of_ble_eq_true rfl)⟩ ⟨(Nat.le_of_ble_eq_true rfl), (Nat.le_of_ble_eq_true rfl)⟩ dX12_readsCondition_1 rfl (fun r15 w16 h14 => ?_)
  obtain ⟨hW17, x18⟩ := h14
  refine x_ws hW17 ?_
  refine x_bipush C (v := 40) dX12_readsCondition_4 (by decide) rfl ?_
  refine x_icmp_eq C (tgt := 19) dX12_readsCondition_6 (by decide) rfl (fun c19 => ?_) (fun c19 => ?_)
  · skip
    have hp20 := hv_lt (x18.symm.trans c19) (by decide)
    refine x_aload_n C dX12_readsCondition_19 rfl 0 rfl rfl ?_
    refine x_iconst C (v := 0) dX12_readsCondition_20 (by decide) rfl ?_
    obtain ⟨w21, hw22⟩ : ∃ w : va_W, w = List.set ws 0 (ob (a 0) 11 [.ref (a 1), .ref (a 2), .ref (a 3), .ref (a 4), .int (nI tp), .int (nI pl), .int (nI le), .int v1, .int nu, .int 0, .int (nI cm), .int (nI wt), .int (nI sm), .int (nI (cd.2.2.2.2.2)), .ref (a 5), .ref (a 6), .ref (a 7), .ref (a 8), .ref (a 9), .ref (a 10), .ref (a 11), .ref (a 12), .ref (a 13), .ref (a 14), .ref (a 15), .ref (a 16), .ref (a 17), .int (nI lm), .ref (a 18), .ref (a 19), .ref (a 20), .ref (a 21), .int v3, .int v4, .int v5, .int v6, .int (nI n8), .int (nI n9), .ref (a 22), .ref (a 23), .ref (a 24), .ref (a 25), .ref (a 26), .ref (a 27), .ref (a 28), .ref (a 29), .ref (a 30), .int v7]) := ⟨_, rfl⟩
    refine x_put C (ci := 11) (k := 9) (ty := .int) 0 k13 rfl in_X12 tyX12 tyX12_ok nmX12 (by decide) w_1127 rfl rfl rfl rfl (Nat.le_of_ble_eq_true rfl) hw22.symm dX12_readsCondition_21 rfl ?_
    have hW23 : WX (okM E a cd) w21 := by rw [hw22]; exact hW.set (k := 0) rfl ⟨tp, pl, le, v1, nu, (0 : Int32), cm, wt, sm, lm, v3, v4, v5, v6, n8, n9, v7, by omega, by omega, by omega, by omega, by omega, by omega, by omega, by omega, by omega, zb12, rfl⟩
    have k24 : w21[0]? = some (ob (a 0) 11 [.ref (a 1), .ref (a 2), .ref (a 3), .ref (a 4), .int (nI tp), .int (nI pl), .int (nI le), .int v1, .int nu, .int 0, .int (nI cm), .int (nI wt), .int (nI sm), .int (nI (cd.2.2.2.2.2)), .ref (a 5), .ref (a 6), .ref (a 7), .ref (a 8), .ref (a 9), .ref (a 10), .ref (a 11), .ref (a 12), .ref (a 13), .ref (a 14), .ref (a 15), .ref (a 16), .ref (a 17), .int (nI lm), .ref (a 18), .ref (a 19), .ref (a 20), .ref (a 21), .int v3, .int v4, .int v5, .int v6, .int (nI n8), .int (nI n9), .ref (a 22), .ref (a 23), .ref (a 24), .ref (a 25), .ref (a 26), .ref (a 27), .ref (a 28), .ref (a 29), .ref (a 30), .int v7]) := by rw [hw22]; exact set_eq k13
    have k25 : w21[4]? = some (bA E (a 4) 260 tf) := by rw [hw22]; exact set_ne htf (by decide)
    have k26 : w21[5]? = some (iA E (a 5) 260 fs) := by rw [hw22]; exact set_ne hfs (by decide)
    have k27 : w21[6]? = some (iA E (a 6) 260 fw) := by rw [hw22]; exact set_ne hfw (by decide)
    have kp28 := keeps_set kp0 hw22 (by first | exact rfl | decide | omega | (dsimp only; omega))
    refine x_aload_n C dX12_readsCondition_24 rfl 0 rfl rfl ?_
    refine x_iconst C (v := 0) dX12_readsCondition_25 (by decide) rfl ?_
    obtain ⟨w29, hw30⟩ : ∃ w : va_W, w = List.set w21 0 (ob (a 0) 11 [.ref (a 1), .ref (a 2), .ref (a 3), .ref (a 4), .int (nI tp), .int (nI pl), .int (nI le), .int v1, .int nu, .int 0, .int (nI cm), .int 0, .int (nI sm), .int (nI (cd.2.2.2.2.2)), .ref (a 5), .ref (a 6), .ref (a 7), .ref (a 8), .ref (a 9), .ref (a 10), .ref (a 11), .ref (a 12), .ref (a 13), .ref (a 14), .ref (a 15), .ref (a 16), .ref (a 17), .int (nI lm), .ref (a 18), .ref (a 19), .ref (a 20), .ref (a 21), .int v3, .int v4, .int v5, .int v6, .int (nI n8), .int (nI n9), .ref (a 22), .ref (a 23), .ref (a 24), .ref (a 25), .ref (a 26), .ref (a 27), .ref (a 28), .ref (a 29), .ref (a 30), .int v7]) := ⟨_, rfl⟩
    refine x_put C (ci := 11) (k := 11) (ty := .int) 0 k24 rfl in_X12 tyX12 tyX12_ok nmX12 (by decide) w_1129 rfl rfl rfl rfl (Nat.le_of_ble_eq_true rfl) hw30.symm dX12_readsCondition_26 rfl ?_
    have hW31 : WX (okM E a cd) w29 := by rw [hw30]; exact hW23.set (k := 0) rfl ⟨tp, pl, le, v1, nu, (0 : Int32), cm, 0, sm, lm, v3, v4, v5, v6, n8, n9, v7, by omega, by omega, by omega, by omega, by omega, by omega, by omega, by omega, by omega, zb12, rfl⟩
    have k32 : w29[0]? = some (ob (a 0) 11 [.ref (a 1), .ref (a 2), .ref (a 3), .ref (a 4), .int (nI tp), .int (nI pl), .int (nI le), .int v1, .int nu, .int 0, .int (nI cm), .int 0, .int (nI sm), .int (nI (cd.2.2.2.2.2)), .ref (a 5), .ref (a 6), .ref (a 7), .ref (a 8), .ref (a 9), .ref (a 10), .ref (a 11), .ref (a 12), .ref (a 13), .ref (a 14), .ref (a 15), .ref (a 16), .ref (a 17), .int (nI lm), .ref (a 18), .ref (a 19), .ref (a 20), .ref (a 21), .int v3, .int v4, .int v5, .int v6, .int (nI n8), .int (nI n9), .ref (a 22), .ref (a 23), .ref (a 24), .ref (a 25), .ref (a 26), .ref (a 27), .ref (a 28), .ref (a 29), .ref (a 30), .int v7]) := by rw [hw30]; exact set_eq k24
    have k33 : w29[4]? = some (bA E (a 4) 260 tf) := by rw [hw30]; exact set_ne k25 (by decide)
    have k34 : w29[5]? = some (iA E (a 5) 260 fs) := by rw [hw30]; exact set_ne k26 (by decide)
    have k35 : w29[6]? = some (iA E (a 6) 260 fw) := by rw [hw30]; exact set_ne k27 (by decide)
    have kp36 := keeps_set kp28 hw30 (by first | exact rfl | decide | omega | (dsimp only; omega))
    refine x_aload_n C dX12_readsCondition_29 rfl 0 rfl rfl ?_
    refine x_bipush C (v := 13) dX12_readsCondition_30 (by decide) rfl ?_
    refine x_vi C (As := [.int 13]) (rest := []) (m_opens13 E l a cd hG w29 hW31 tp pl le cm 0 sm lm nu ⟨v1, (0 : Int32), v3, v4, v5, v6, v7, n8, n9, ⟨by omega, by omega, by omega, by omega, by omega, by omega, by omega⟩, ⟨by omega, by omega⟩, zb12, k32⟩ fw k35 (by omega) (by omega)) mf_X12_opens w_1336 0 k32 rfl rfl rfl (Nat.le_of_ble_eq_true rfl) ⟨(Nat.le_of_ble_eq_true rfl), (Nat.le_of_ble_eq_true rfl)⟩ ⟨(Nat.le_of_ble_eq_true rfl), (Nat.le_of_ble_eq_true rfl)⟩ dX12_readsCondition_32 rfl (fun r38 w39 h37 => ?_)
    obtain ⟨hW40, kq41, zb42, x43⟩ := h37
    have k44 : w39[4]? = some (bA E (a 4) 260 tf) := keeps_at kq41 k33 (by first | decide | omega | (dsimp only; omega))
    have k45 : w39[5]? = some (iA E (a 5) 260 fs) := keeps_at kq41 k34 (by first | decide | omega | (dsimp only; omega))
    have kp46 := keeps_tr kp36 kq41 (fun q hq => by first | omega | (dsimp only at *; omega))
    rcases x43 with ⟨e47, mo48, k49⟩ | ⟨e50, mo51, k52⟩
    · refine x_top e47 ?_
      obtain ⟨v53, v54, v55, v56, v57, v58, v59, n60, n61, bo62, bo63, zb64, k65⟩ := mo48
      refine x_if_ne C (tgt := 40) dX12_readsCondition_35 (by decide) rfl (fun h => absurd h (by decide)) (fun _ => ?_)
      refine x_iconst C (v := 0) dX12_readsCondition_38 (by decide) rfl ?_
      exact x_zret C hr hlk rfl dX12_readsCondition_39 ⟨hW40, kp46, (Or.inl rfl), (Or.inl ⟨rfl, ⟨pl, cm, 0, _, _, ⟨⟨_, ⟨v53, v54, v55, v56, v57, v58, v59, n60, n61, ⟨by omega, by omega, by omega, by omega, by omega, by omega, by omega⟩, ⟨by omega, by omega⟩, zb64, k65⟩⟩, k45, k49⟩⟩⟩)⟩
    · refine x_top e50 ?_
      obtain ⟨v66, v67, v68, v69, v70, v71, v72, n73, n74, bo75, bo76, zb77, k78⟩ := mo51
      refine x_if_ne C (tgt := 40) dX12_readsCondition_35 (by decide) rfl (fun _ => ?_) (fun h => absurd h (by decide))
      have loop40 : ∀ (fu40 : Nat) (px : Nat) (cx : Nat) (wx : Nat) (nz : Int32) (fx : Nat → Int32) (gx : Nat → Int32) (Wx : WL) (wl40 : va_W), WX (okM E a cd) wl40 → le - px < fu40 → MO a cd wl40 tp px le cx wx sm lm nz → wl40[4]? = some (bA E (a 4) 260 tf) → wl40[5]? = some (iA E (a 5) 260 fx) → wl40[6]? = some (iA E (a 6) 260 gx) → wR gx Wx wx → CI fx cm cx 0 Wx → cOps Wx → bot Wx → cx + wgt Wx ≤ px ∧ wx ≤ px ∧ pl < px ∧ px ≤ le → (∀ k, k < cm → fx k = fs k) → keeps ws wl40 (fun q => q = 0 ∨ q = 5 ∨ q = 6) → X E p l e (xRm 6 0 0) s m ([.ref (a 0)] : List Value).toArray below meth c A 1 0 0 (MQ below (va_Qi (fun r w => WX (okM E a cd) w ∧ keeps ws w (fun q => q = 0 ∨ q = 5 ∨ q = 6) ∧ zb r ∧ ((r = 0 ∧ RF E a cd w tp le sm lm) ∨ (r = 1 ∧ ∃ (pl2 cm2 : Nat) (fs2 fw2 : Nat → Int32), pl < pl2 ∧ pl2 ≤ le ∧ RS E a cd w tp pl2 le cm2 0 sm lm fs2 fw2 ∧ cSeg fs2 cm cm2 ∧ cm2 ≤ pl2 ∧ ∀ k, k < cm → fs2 k = fs k))) (xB E A) A) ([.ref (a 0)] : List Value).toArray s 0 0 A) wl40 40 [(0, .ref (a 0))] [] := by
        intro fu40
        induction fu40 with
        | zero => intro px cx wx nz fx gx Wx wl40 _ q; omega
        | succ fu40 ih40 =>
          intro px cx wx nz fx gx Wx wl40 hWl40 me40 iv40_0 iv40_1 iv40_2 iv40_3 iv40_4 iv40_5 iv40_6 iv40_7 iv40_8 iv40_9 kq40
          obtain ⟨v79, v80, v81, v82, v83, v84, v85, n86, n87, bo88, bo89, zb90, k91⟩ := iv40_0
          refine x_aload_n C dX12_readsCondition_40 rfl 0 rfl rfl ?_
          refine x_vi C (As := []) (rest := []) (m_here E l a cd hG wl40 hWl40 tp px le cx wx sm lm nz ⟨v79, v80, v81, v82, v83, v84, v85, n86, n87, ⟨by omega, by omega, by omega, by omega, by omega, by omega, by omega⟩, ⟨by omega, by omega⟩, zb90, k91⟩ tf iv40_1) mf_X12_here w_1317 0 k91 rfl rfl rfl (Nat.le_of_ble_eq_true rfl) ⟨(Nat.le_of_ble_eq_true rfl), (Nat.le_of_ble_eq_true rfl)⟩ ⟨(Nat.le_of_ble_eq_true rfl), (Nat.le_of_ble_eq_true rfl)⟩ dX12_readsCondition_41 rfl (fun r93 w94 h92 => ?_)
          obtain ⟨hW95, x96⟩ := h92
          refine x_ws hW95 ?_
          refine x_bipush C (v := 33) dX12_readsCondition_44 (by decide) rfl ?_
          refine x_icmp_eq C (tgt := 58) dX12_readsCondition_46 (by decide) rfl (fun c97 => ?_) (fun c97 => ?_)
          · skip
            have hp98 := hv_lt (x96.symm.trans c97) (by decide)
            refine x_aload_n C dX12_readsCondition_58 rfl 0 rfl rfl ?_
            refine x_aload_n C dX12_readsCondition_59 rfl 0 rfl rfl ?_
            refine x_vi C (As := []) (rest := [.ref (a 0)]) (m_here E l a cd hG wl40 hWl40 tp px le cx wx sm lm nz ⟨v79, v80, v81, v82, v83, v84, v85, n86, n87, ⟨by omega, by omega, by omega, by omega, by omega, by omega, by omega⟩, ⟨by omega, by omega⟩, zb90, k91⟩ tf iv40_1) mf_X12_here w_1317 0 k91 rfl rfl rfl (Nat.le_of_ble_eq_true rfl) ⟨(Nat.le_of_ble_eq_true rfl), (Nat.le_of_ble_eq_true rfl)⟩ ⟨(Nat.le_of_ble_eq_true rfl), (Nat.le_of_ble_eq_true rfl)⟩ dX12_readsCondition_60 rfl (fun r100 w101 h99 => ?_)
            obtain ⟨hW102, x103⟩ := h99
            refine x_ws hW102 ?_
            refine x_bipush C (v := 33) dX12_readsCondition_63 (by decide) rfl ?_
            refine x_icmp_ne C (tgt := 73) dX12_readsCondition_65 (by decide) rfl (fun c104 => ?_) (fun c104 => ?_)
            · skip
              refine x_bipush C (v := 13) dX12_readsCondition_73 (by decide) rfl ?_
              refine x_vi C (As := [.int 13]) (rest := []) (m_opens13 E l a cd hG wl40 hWl40 tp px le cx wx sm lm nz ⟨v79, v80, v81, v82, v83, v84, v85, n86, n87, ⟨by omega, by omega, by omega, by omega, by omega, by omega, by omega⟩, ⟨by omega, by omega⟩, zb90, k91⟩ gx iv40_3 (by omega) (by omega)) mf_X12_opens w_1336 0 k91 rfl rfl rfl (Nat.le_of_ble_eq_true rfl) ⟨(Nat.le_of_ble_eq_true rfl), (Nat.le_of_ble_eq_true rfl)⟩ ⟨(Nat.le_of_ble_eq_true rfl), (Nat.le_of_ble_eq_true rfl)⟩ dX12_readsCondition_75 rfl (fun r106 w107 h105 => ?_)
              obtain ⟨hW108, kq109, zb110, x111⟩ := h105
              have k112 : w107[4]? = some (bA E (a 4) 260 tf) := keeps_at kq109 iv40_1 (by first | decide | omega | (dsimp only; omega))
              have k113 : w107[5]? = some (iA E (a 5) 260 fx) := keeps_at kq109 iv40_2 (by first | decide | omega | (dsimp only; omega))
              have kp114 := keeps_tr kq40 kq109 (fun q hq => by first | omega | (dsimp only at *; omega))
              rcases x111 with ⟨e115, mo116, k117⟩ | ⟨e118, mo119, k120⟩
              · refine x_top e115 ?_
                obtain ⟨v121, v122, v123, v124, v125, v126, v127, n128, n129, bo130, bo131, zb132, k133⟩ := mo116
                refine x_if_ne C (tgt := 40) dX12_readsCondition_78 (by decide) rfl (fun h => absurd h (by decide)) (fun _ => ?_)
                refine x_iconst C (v := 0) dX12_readsCondition_81 (by decide) rfl ?_
                exact x_zret C hr hlk rfl dX12_readsCondition_82 ⟨hW108, kp114, (Or.inl rfl), (Or.inl ⟨rfl, ⟨px, cx, wx, _, _, ⟨⟨_, ⟨v121, v122, v123, v124, v125, v126, v127, n128, n129, ⟨by omega, by omega, by omega, by omega, by omega, by omega, by omega⟩, ⟨by omega, by omega⟩, zb132, k133⟩⟩, k113, k117⟩⟩⟩)⟩
              · refine x_top e118 ?_
                obtain ⟨v134, v135, v136, v137, v138, v139, v140, n141, n142, bo143, bo144, zb145, k146⟩ := mo119
                refine x_if_ne C (tgt := 40) dX12_readsCondition_78 (by decide) rfl (fun _ => ?_) (fun h => absurd h (by decide))
                refine x_lv (lv1 := [(0, .ref (a 0))]) [0] rfl ?_
                exact ih40 (px + 1) cx (wx + 1) nz fx ((upd gx wx (nI (1048576 * 13 + 0)))) (((13, 0) :: Wx)) w107 hW108 (by omega) ⟨v134, v135, v136, v137, v138, v139, v140, n141, n142, ⟨by omega, by omega, by omega, by omega, by omega, by omega, by omega⟩, ⟨by omega, by omega⟩, zb145, k146⟩ k112 k113 k120 (wR_push (op := 13) (pay := 0) iv40_4 (by omega) (by omega)) (CI_push (e := (13, 0)) iv40_5 (nJ ⟨by decide, by decide⟩)) (cOps_cons (e := (13, 0)) ⟨by decide, by decide⟩ iv40_6) (bot_push iv40_7) (by rw [wgt_hd0 (e := (13, 0)) (by decide)]; omega) iv40_9 kp114
            · skip
              have hp147 := hv_lt (x103.symm.trans c104) (by decide)
              refine x_bipush C (v := 10) dX12_readsCondition_68 (by decide) rfl ?_
              refine x_goto C (tgt := 75) dX12_readsCondition_70 (by decide) ?_
              refine x_vi C (As := [.int 10]) (rest := []) (m_opens10 E l a cd hG wl40 hWl40 tp px le cx wx sm lm nz ⟨v79, v80, v81, v82, v83, v84, v85, n86, n87, ⟨by omega, by omega, by omega, by omega, by omega, by omega, by omega⟩, ⟨by omega, by omega⟩, zb90, k91⟩ gx iv40_3 (by omega) (by omega)) mf_X12_opens w_1336 0 k91 rfl rfl rfl (Nat.le_of_ble_eq_true rfl) ⟨(Nat.le_of_ble_eq_true rfl), (Nat.le_of_ble_eq_true rfl)⟩ ⟨(Nat.le_of_ble_eq_true rfl), (Nat.le_of_ble_eq_true rfl)⟩ dX12_readsCondition_75 rfl (fun r149 w150 h148 => ?_)
              obtain ⟨hW151, kq152, zb153, x154⟩ := h148
              have k155 : w150[4]? = some (bA E (a 4) 260 tf) := keeps_at kq152 iv40_1 (by first | decide | omega | (dsimp only; omega))
              have k156 : w150[5]? = some (iA E (a 5) 260 fx) := keeps_at kq152 iv40_2 (by first | decide | omega | (dsimp only; omega))
              have kp157 := keeps_tr kq40 kq152 (fun q hq => by first | omega | (dsimp only at *; omega))
              rcases x154 with ⟨e158, mo159, k160⟩ | ⟨e161, mo162, k163⟩
              · refine x_top e158 ?_
                obtain ⟨v164, v165, v166, v167, v168, v169, v170, n171, n172, bo173, bo174, zb175, k176⟩ := mo159
                refine x_if_ne C (tgt := 40) dX12_readsCondition_78 (by decide) rfl (fun h => absurd h (by decide)) (fun _ => ?_)
                refine x_iconst C (v := 0) dX12_readsCondition_81 (by decide) rfl ?_
                exact x_zret C hr hlk rfl dX12_readsCondition_82 ⟨hW151, kp157, (Or.inl rfl), (Or.inl ⟨rfl, ⟨px, cx, wx, _, _, ⟨⟨_, ⟨v164, v165, v166, v167, v168, v169, v170, n171, n172, ⟨by omega, by omega, by omega, by omega, by omega, by omega, by omega⟩, ⟨by omega, by omega⟩, zb175, k176⟩⟩, k156, k160⟩⟩⟩)⟩
              · refine x_top e161 ?_
                obtain ⟨v177, v178, v179, v180, v181, v182, v183, n184, n185, bo186, bo187, zb188, k189⟩ := mo162
                refine x_if_ne C (tgt := 40) dX12_readsCondition_78 (by decide) rfl (fun _ => ?_) (fun h => absurd h (by decide))
                refine x_lv (lv1 := [(0, .ref (a 0))]) [0] rfl ?_
                exact ih40 (px + 1) cx (wx + 1) nz fx ((upd gx wx (nI (1048576 * 10 + 0)))) (((10, 0) :: Wx)) w150 hW151 (by omega) ⟨v177, v178, v179, v180, v181, v182, v183, n184, n185, ⟨by omega, by omega, by omega, by omega, by omega, by omega, by omega⟩, ⟨by omega, by omega⟩, zb188, k189⟩ k155 k156 k163 (wR_push (op := 10) (pay := 0) iv40_4 (by omega) (by omega)) (CI_push (e := (10, 0)) iv40_5 (nJ ⟨by decide, by decide⟩)) (cOps_cons (e := (10, 0)) ⟨by decide, by decide⟩ iv40_6) (bot_push iv40_7) (by rw [wgt_hd1 (e := (10, 0)) (by decide)]; omega) iv40_9 kp157
          · skip
            refine x_aload_n C dX12_readsCondition_49 rfl 0 rfl rfl ?_
            refine x_vi C (As := []) (rest := []) (m_here E l a cd hG wl40 hWl40 tp px le cx wx sm lm nz ⟨v79, v80, v81, v82, v83, v84, v85, n86, n87, ⟨by omega, by omega, by omega, by omega, by omega, by omega, by omega⟩, ⟨by omega, by omega⟩, zb90, k91⟩ tf iv40_1) mf_X12_here w_1317 0 k91 rfl rfl rfl (Nat.le_of_ble_eq_true rfl) ⟨(Nat.le_of_ble_eq_true rfl), (Nat.le_of_ble_eq_true rfl)⟩ ⟨(Nat.le_of_ble_eq_true rfl), (Nat.le_of_ble_eq_true rfl)⟩ dX12_readsCondition_50 rfl (fun r191 w192 h190 => ?_)
            obtain ⟨hW193, x194⟩ := h190
            refine x_ws hW193 ?_
            refine x_bipush C (v := 40) dX12_readsCondition_53 (by decide) rfl ?_
            refine x_icmp_ne C (tgt := 83) dX12_readsCondition_55 (by decide) rfl (fun c195 => ?_) (fun c195 => ?_)
            · skip
              refine x_aload_n C dX12_readsCondition_83 rfl 0 rfl rfl ?_
              refine x_vi C (As := []) (rest := []) (m_readsCompared E l a cd hG wl40 hWl40 tp px le cx wx sm lm nz ⟨v79, v80, v81, v82, v83, v84, v85, n86, n87, ⟨by omega, by omega, by omega, by omega, by omega, by omega, by omega⟩, ⟨by omega, by omega⟩, zb90, k91⟩ tf iv40_1 (by omega) fx iv40_2 gx iv40_3 Wx iv40_4 cm iv40_5 iv40_6 iv40_7 (by omega) (by omega)) mf_X12_readsCompared w_1375 0 k91 rfl rfl rfl (Nat.le_of_ble_eq_true rfl) ⟨(Nat.le_of_ble_eq_true rfl), (Nat.le_of_ble_eq_true rfl)⟩ ⟨(Nat.le_of_ble_eq_true rfl), (Nat.le_of_ble_eq_true rfl)⟩ dX12_readsCondition_84 rfl (fun r197 w198 h196 => ?_)
              obtain ⟨hW199, kq200, zb201, x202⟩ := h196
              have k203 : w198[4]? = some (bA E (a 4) 260 tf) := keeps_at kq200 iv40_1 (by first | decide | omega | (dsimp only; omega))
              have kp204 := keeps_tr kq40 kq200 (fun q hq => by first | omega | (dsimp only at *; omega))
              rcases x202 with ⟨e205, rf206⟩ | ⟨e207, pl208, cm209, wt210, fs211, fw212, We213, hs214, hs215, hs216, hs217, hs218, hs219, hs220, hs221, hs222, hs223⟩
              · refine x_top e205 ?_
                obtain ⟨pl224, cm225, wt226, fs227, fw228, rs229⟩ := rf206
                obtain ⟨⟨nu230, mo231⟩, k232, k233⟩ := rs229
                obtain ⟨v234, v235, v236, v237, v238, v239, v240, n241, n242, bo243, bo244, zb245, k246⟩ := mo231
                refine x_if_ne C (tgt := 92) dX12_readsCondition_87 (by decide) rfl (fun h => absurd h (by decide)) (fun _ => ?_)
                refine x_iconst C (v := 0) dX12_readsCondition_90 (by decide) rfl ?_
                exact x_zret C hr hlk rfl dX12_readsCondition_91 ⟨hW199, kp204, (Or.inl rfl), (Or.inl ⟨rfl, ⟨pl224, cm225, wt226, _, _, ⟨⟨_, ⟨v234, v235, v236, v237, v238, v239, v240, n241, n242, ⟨by omega, by omega, by omega, by omega, by omega, by omega, by omega⟩, ⟨by omega, by omega⟩, zb245, k246⟩⟩, k232, k233⟩⟩⟩)⟩
              · refine x_top e207 ?_
                obtain ⟨⟨nu247, mo248⟩, k249, k250⟩ := hs218
                obtain ⟨v251, v252, v253, v254, v255, v256, v257, n258, n259, bo260, bo261, zb262, k263⟩ := mo248
                refine x_if_ne C (tgt := 92) dX12_readsCondition_87 (by decide) rfl (fun _ => ?_) (fun h => absurd h (by decide))
                have loop92 : ∀ (fu92 : Nat) (py : Nat) (cy : Nat) (wy : Nat) (ny : Int32) (fy : Nat → Int32) (gy : Nat → Int32) (Wy : WL) (wl92 : va_W), WX (okM E a cd) wl92 → le - py < fu92 → MO a cd wl92 tp py le cy wy sm lm ny → wl92[4]? = some (bA E (a 4) 260 tf) → wl92[5]? = some (iA E (a 5) 260 fy) → wl92[6]? = some (iA E (a 6) 260 gy) → wR gy Wy wy → CI fy cm cy 1 Wy → cOps Wy → bot Wy → cy + wgt Wy ≤ py ∧ wy ≤ py ∧ pl < py ∧ py ≤ le ∧ px < py → (∀ k, k < cm → fy k = fs k) → keeps ws wl92 (fun q => q = 0 ∨ q = 5 ∨ q = 6) → X E p l e (xRm 6 0 0) s m ([.ref (a 0)] : List Value).toArray below meth c A 1 0 0 (MQ below (va_Qi (fun r w => WX (okM E a cd) w ∧ keeps ws w (fun q => q = 0 ∨ q = 5 ∨ q = 6) ∧ zb r ∧ ((r = 0 ∧ RF E a cd w tp le sm lm) ∨ (r = 1 ∧ ∃ (pl2 cm2 : Nat) (fs2 fw2 : Nat → Int32), pl < pl2 ∧ pl2 ≤ le ∧ RS E a cd w tp pl2 le cm2 0 sm lm fs2 fw2 ∧ cSeg fs2 cm cm2 ∧ cm2 ≤ pl2 ∧ ∀ k, k < cm → fs2 k = fs k))) (xB E A) A) ([.ref (a 0)] : List Value).toArray s 0 0 A) wl92 92 [(0, .ref (a 0))] [] := by
                  intro fu92
                  induction fu92 with
                  | zero => intro py cy wy ny fy gy Wy wl92 _ q; omega
                  | succ fu92 ih92 =>
                    intro py cy wy ny fy gy Wy wl92 hWl92 me92 iv92_0 iv92_1 iv92_2 iv92_3 iv92_4 iv92_5 iv92_6 iv92_7 iv92_8 iv92_9 kq92
                    obtain ⟨v264, v265, v266, v267, v268, v269, v270, n271, n272, bo273, bo274, zb275, k276⟩ := iv92_0
                    refine x_aload_n C dX12_readsCondition_92 rfl 0 rfl rfl ?_
                    refine x_vi C (As := []) (rest := []) (m_here E l a cd hG wl92 hWl92 tp py le cy wy sm lm ny ⟨v264, v265, v266, v267, v268, v269, v270, n271, n272, ⟨by omega, by omega, by omega, by omega, by omega, by omega, by omega⟩, ⟨by omega, by omega⟩, zb275, k276⟩ tf iv92_1) mf_X12_here w_1317 0 k276 rfl rfl rfl (Nat.le_of_ble_eq_true rfl) ⟨(Nat.le_of_ble_eq_true rfl), (Nat.le_of_ble_eq_true rfl)⟩ ⟨(Nat.le_of_ble_eq_true rfl), (Nat.le_of_ble_eq_true rfl)⟩ dX12_readsCondition_93 rfl (fun r278 w279 h277 => ?_)
                    obtain ⟨hW280, x281⟩ := h277
                    refine x_ws hW280 ?_
                    refine x_bipush C (v := 41) dX12_readsCondition_96 (by decide) rfl ?_
                    refine x_icmp_ne C (tgt := 152) dX12_readsCondition_98 (by decide) rfl (fun c282 => ?_) (fun c282 => ?_)
                    · skip
                      refine x_aload_n C dX12_readsCondition_152 rfl 0 rfl rfl ?_
                      refine x_vi C (As := []) (rest := []) (m_here E l a cd hG wl92 hWl92 tp py le cy wy sm lm ny ⟨v264, v265, v266, v267, v268, v269, v270, n271, n272, ⟨by omega, by omega, by omega, by omega, by omega, by omega, by omega⟩, ⟨by omega, by omega⟩, zb275, k276⟩ tf iv92_1) mf_X12_here w_1317 0 k276 rfl rfl rfl (Nat.le_of_ble_eq_true rfl) ⟨(Nat.le_of_ble_eq_true rfl), (Nat.le_of_ble_eq_true rfl)⟩ ⟨(Nat.le_of_ble_eq_true rfl), (Nat.le_of_ble_eq_true rfl)⟩ dX12_readsCondition_153 rfl (fun r284 w285 h283 => ?_)
                      obtain ⟨hW286, x287⟩ := h283
                      refine x_ws hW286 ?_
                      refine x_bipush C (v := 38) dX12_readsCondition_156 (by decide) rfl ?_
                      refine x_icmp_eq C (tgt := 180) dX12_readsCondition_158 (by decide) rfl (fun c288 => ?_) (fun c288 => ?_)
                      · skip
                        have hp289 := hv_lt (x287.symm.trans c288) (by decide)
                        refine x_aload_n C dX12_readsCondition_180 rfl 0 rfl rfl ?_
                        refine x_aload_n C dX12_readsCondition_181 rfl 0 rfl rfl ?_
                        refine x_vi C (As := []) (rest := [.ref (a 0)]) (m_here E l a cd hG wl92 hWl92 tp py le cy wy sm lm ny ⟨v264, v265, v266, v267, v268, v269, v270, n271, n272, ⟨by omega, by omega, by omega, by omega, by omega, by omega, by omega⟩, ⟨by omega, by omega⟩, zb275, k276⟩ tf iv92_1) mf_X12_here w_1317 0 k276 rfl rfl rfl (Nat.le_of_ble_eq_true rfl) ⟨(Nat.le_of_ble_eq_true rfl), (Nat.le_of_ble_eq_true rfl)⟩ ⟨(Nat.le_of_ble_eq_true rfl), (Nat.le_of_ble_eq_true rfl)⟩ dX12_readsCondition_182 rfl (fun r291 w292 h290 => ?_)
                        obtain ⟨hW293, x294⟩ := h290
                        refine x_ws hW293 ?_
                        refine x_bipush C (v := 124) dX12_readsCondition_185 (by decide) rfl ?_
                        refine x_icmp_ne C (tgt := 194) dX12_readsCondition_187 (by decide) rfl (fun c295 => ?_) (fun c295 => ?_)
                        · skip
                          refine x_iconst C (v := 0) dX12_readsCondition_194 (by decide) rfl ?_
                          refine x_vv C (As := [.int 0]) (rest := []) (m_lands0 E l a cd hG wl92 hWl92 tp py le cy wy sm lm ny ⟨v264, v265, v266, v267, v268, v269, v270, n271, n272, ⟨by omega, by omega, by omega, by omega, by omega, by omega, by omega⟩, ⟨by omega, by omega⟩, zb275, k276⟩ fy iv92_2 gy iv92_3 Wy iv92_4 cm iv92_5 iv92_6 iv92_7 (by omega)) mf_X12_lands w_1383 0 k276 rfl rfl rfl (Nat.le_of_ble_eq_true rfl) ⟨(Nat.le_of_ble_eq_true rfl), (Nat.le_of_ble_eq_true rfl)⟩ ⟨(Nat.le_of_ble_eq_true rfl), (Nat.le_of_ble_eq_true rfl)⟩ dX12_readsCondition_195 rfl (fun w298 h296 => ?_)
                          obtain ⟨hW299, kq300, x301⟩ := h296
                          have k302 : w298[4]? = some (bA E (a 4) 260 tf) := keeps_at kq300 iv92_1 (by first | decide | omega | (dsimp only; omega))
                          have k303 : w298[6]? = some (iA E (a 6) 260 gy) := keeps_at kq300 iv92_3 (by first | decide | omega | (dsimp only; omega))
                          have kp304 := keeps_tr kq92 kq300 (fun q hq => by first | omega | (dsimp only at *; omega))
                          obtain ⟨wt305, fs306, We307, hc308, hc309, hc310, hc311, hc312, hc313, hc314, hc315, hc316⟩ := x301
                          obtain ⟨v317, v318, v319, v320, v321, v322, v323, n324, n325, bo326, bo327, zb328, k329⟩ := hc310
                          refine x_aload_n C dX12_readsCondition_198 rfl 0 rfl rfl ?_
                          refine x_aload_n C dX12_readsCondition_199 rfl 0 rfl rfl ?_
                          refine x_vi C (As := []) (rest := [.ref (a 0)]) (m_here E l a cd hG w298 hW299 tp py le cy wt305 sm lm ny ⟨v317, v318, v319, v320, v321, v322, v323, n324, n325, ⟨by omega, by omega, by omega, by omega, by omega, by omega, by omega⟩, ⟨by omega, by omega⟩, zb328, k329⟩ tf k302) mf_X12_here w_1317 0 k329 rfl rfl rfl (Nat.le_of_ble_eq_true rfl) ⟨(Nat.le_of_ble_eq_true rfl), (Nat.le_of_ble_eq_true rfl)⟩ ⟨(Nat.le_of_ble_eq_true rfl), (Nat.le_of_ble_eq_true rfl)⟩ dX12_readsCondition_200 rfl (fun r331 w332 h330 => ?_)
                          obtain ⟨hW333, x334⟩ := h330
                          refine x_ws hW333 ?_
                          refine x_bipush C (v := 38) dX12_readsCondition_203 (by decide) rfl ?_
                          refine x_icmp_ne C (tgt := 213) dX12_readsCondition_205 (by decide) rfl (fun c335 => ?_) (fun c335 => ?_)
                          · skip
                            refine x_bipush C (v := 12) dX12_readsCondition_213 (by decide) rfl ?_
                            refine x_vv C (As := [.int 12]) (rest := []) (m_jumps12 E l a cd hG w298 hW299 tp py le cy wt305 sm lm ny ⟨v317, v318, v319, v320, v321, v322, v323, n324, n325, ⟨by omega, by omega, by omega, by omega, by omega, by omega, by omega⟩, ⟨by omega, by omega⟩, zb328, k329⟩ fs306 hc311 gy k303 (by omega) (by omega) (by omega)) mf_X12_jumps w_1387 0 k329 rfl rfl rfl (Nat.le_of_ble_eq_true rfl) ⟨(Nat.le_of_ble_eq_true rfl), (Nat.le_of_ble_eq_true rfl)⟩ ⟨(Nat.le_of_ble_eq_true rfl), (Nat.le_of_ble_eq_true rfl)⟩ dX12_readsCondition_215 rfl (fun w338 h336 => ?_)
                            obtain ⟨hW339, kq340, x341⟩ := h336
                            have k342 : w338[4]? = some (bA E (a 4) 260 tf) := keeps_at kq340 k302 (by first | decide | omega | (dsimp only; omega))
                            have kp343 := keeps_tr kp304 kq340 (fun q hq => by first | omega | (dsimp only at *; omega))
                            obtain ⟨hj344, hj345, hj346⟩ := x341
                            obtain ⟨v347, v348, v349, v350, v351, v352, v353, n354, n355, bo356, bo357, zb358, k359⟩ := hj344
                            refine x_goto C (tgt := 40) dX12_readsCondition_218 (by decide) ?_
                            refine x_lv (lv1 := [(0, .ref (a 0))]) [0] rfl ?_
                            exact ih40 (py + 1) (cy + 1) (wt305 + 1) ny ((upd fs306 cy (nI (1048576 * 12 + 0)))) ((upd gy wt305 (nI (1048576 * 12 + cy)))) (((12, cy) :: We307)) w338 hW339 (by omega) ⟨v347, v348, v349, v350, v351, v352, v353, n354, n355, ⟨by omega, by omega, by omega, by omega, by omega, by omega, by omega⟩, ⟨by omega, by omega⟩, zb358, k359⟩ k342 hj345 hj346 (wR_push (op := 12) (pay := cy) hc308 (by omega) (by omega)) (CI_jump hc312 (Or.inr rfl)) (cOps_cons (e := (12, cy)) ⟨by show 10 ≤ 12; omega, by show 12 ≤ 13; omega⟩ hc313) (bot_push hc314) (by rw [wgt_hd0 (e := (12, cy)) (by show ¬ ((2 ≤ 12 ∧ 12 ≤ 6) ∨ 12 = 10); omega)]; omega) (ag_upd (fun k hk => (hc316 k hk).trans (iv92_9 k hk)) (CI_le hc312)) kp343
                          · skip
                            have hp360 := hv_lt (x334.symm.trans c335) (by decide)
                            refine x_bipush C (v := 11) dX12_readsCondition_208 (by decide) rfl ?_
                            refine x_goto C (tgt := 215) dX12_readsCondition_210 (by decide) ?_
                            refine x_vv C (As := [.int 11]) (rest := []) (m_jumps11 E l a cd hG w298 hW299 tp py le cy wt305 sm lm ny ⟨v317, v318, v319, v320, v321, v322, v323, n324, n325, ⟨by omega, by omega, by omega, by omega, by omega, by omega, by omega⟩, ⟨by omega, by omega⟩, zb328, k329⟩ fs306 hc311 gy k303 (by omega) (by omega) (by omega)) mf_X12_jumps w_1387 0 k329 rfl rfl rfl (Nat.le_of_ble_eq_true rfl) ⟨(Nat.le_of_ble_eq_true rfl), (Nat.le_of_ble_eq_true rfl)⟩ ⟨(Nat.le_of_ble_eq_true rfl), (Nat.le_of_ble_eq_true rfl)⟩ dX12_readsCondition_215 rfl (fun w363 h361 => ?_)
                            obtain ⟨hW364, kq365, x366⟩ := h361
                            have k367 : w363[4]? = some (bA E (a 4) 260 tf) := keeps_at kq365 k302 (by first | decide | omega | (dsimp only; omega))
                            have kp368 := keeps_tr kp304 kq365 (fun q hq => by first | omega | (dsimp only at *; omega))
                            obtain ⟨hj369, hj370, hj371⟩ := x366
                            obtain ⟨v372, v373, v374, v375, v376, v377, v378, n379, n380, bo381, bo382, zb383, k384⟩ := hj369
                            refine x_goto C (tgt := 40) dX12_readsCondition_218 (by decide) ?_
                            refine x_lv (lv1 := [(0, .ref (a 0))]) [0] rfl ?_
                            exact ih40 (py + 1) (cy + 1) (wt305 + 1) ny ((upd fs306 cy (nI (1048576 * 11 + 0)))) ((upd gy wt305 (nI (1048576 * 11 + cy)))) (((11, cy) :: We307)) w363 hW364 (by omega) ⟨v372, v373, v374, v375, v376, v377, v378, n379, n380, ⟨by omega, by omega, by omega, by omega, by omega, by omega, by omega⟩, ⟨by omega, by omega⟩, zb383, k384⟩ k367 hj370 hj371 (wR_push (op := 11) (pay := cy) hc308 (by omega) (by omega)) (CI_jump hc312 (Or.inl rfl)) (cOps_cons (e := (11, cy)) ⟨by show 10 ≤ 11; omega, by show 11 ≤ 13; omega⟩ hc313) (bot_push hc314) (by rw [wgt_hd0 (e := (11, cy)) (by show ¬ ((2 ≤ 11 ∧ 11 ≤ 6) ∨ 11 = 10); omega)]; omega) (ag_upd (fun k hk => (hc316 k hk).trans (iv92_9 k hk)) (CI_le hc312)) kp368
                        · skip
                          have hp385 := hv_lt (x294.symm.trans c295) (by decide)
                          refine x_iconst C (v := 1) dX12_readsCondition_190 (by decide) rfl ?_
                          refine x_goto C (tgt := 195) dX12_readsCondition_191 (by decide) ?_
                          refine x_vv C (As := [.int 1]) (rest := []) (m_lands1 E l a cd hG wl92 hWl92 tp py le cy wy sm lm ny ⟨v264, v265, v266, v267, v268, v269, v270, n271, n272, ⟨by omega, by omega, by omega, by omega, by omega, by omega, by omega⟩, ⟨by omega, by omega⟩, zb275, k276⟩ fy iv92_2 gy iv92_3 Wy iv92_4 cm iv92_5 iv92_6 iv92_7 (by omega)) mf_X12_lands w_1383 0 k276 rfl rfl rfl (Nat.le_of_ble_eq_true rfl) ⟨(Nat.le_of_ble_eq_true rfl), (Nat.le_of_ble_eq_true rfl)⟩ ⟨(Nat.le_of_ble_eq_true rfl), (Nat.le_of_ble_eq_true rfl)⟩ dX12_readsCondition_195 rfl (fun w388 h386 => ?_)
                          obtain ⟨hW389, kq390, x391⟩ := h386
                          have k392 : w388[4]? = some (bA E (a 4) 260 tf) := keeps_at kq390 iv92_1 (by first | decide | omega | (dsimp only; omega))
                          have k393 : w388[6]? = some (iA E (a 6) 260 gy) := keeps_at kq390 iv92_3 (by first | decide | omega | (dsimp only; omega))
                          have kp394 := keeps_tr kq92 kq390 (fun q hq => by first | omega | (dsimp only at *; omega))
                          obtain ⟨wt395, fs396, We397, hc398, hc399, hc400, hc401, hc402, hc403, hc404, hc405, hc406, hc407⟩ := x391
                          obtain ⟨v408, v409, v410, v411, v412, v413, v414, n415, n416, bo417, bo418, zb419, k420⟩ := hc400
                          refine x_aload_n C dX12_readsCondition_198 rfl 0 rfl rfl ?_
                          refine x_aload_n C dX12_readsCondition_199 rfl 0 rfl rfl ?_
                          refine x_vi C (As := []) (rest := [.ref (a 0)]) (m_here E l a cd hG w388 hW389 tp py le cy wt395 sm lm ny ⟨v408, v409, v410, v411, v412, v413, v414, n415, n416, ⟨by omega, by omega, by omega, by omega, by omega, by omega, by omega⟩, ⟨by omega, by omega⟩, zb419, k420⟩ tf k392) mf_X12_here w_1317 0 k420 rfl rfl rfl (Nat.le_of_ble_eq_true rfl) ⟨(Nat.le_of_ble_eq_true rfl), (Nat.le_of_ble_eq_true rfl)⟩ ⟨(Nat.le_of_ble_eq_true rfl), (Nat.le_of_ble_eq_true rfl)⟩ dX12_readsCondition_200 rfl (fun r422 w423 h421 => ?_)
                          obtain ⟨hW424, x425⟩ := h421
                          refine x_ws hW424 ?_
                          refine x_bipush C (v := 38) dX12_readsCondition_203 (by decide) rfl ?_
                          refine x_icmp_ne C (tgt := 213) dX12_readsCondition_205 (by decide) rfl (fun c426 => ?_) (fun c426 => ?_)
                          · skip
                            refine x_bipush C (v := 12) dX12_readsCondition_213 (by decide) rfl ?_
                            refine x_vv C (As := [.int 12]) (rest := []) (m_jumps12 E l a cd hG w388 hW389 tp py le cy wt395 sm lm ny ⟨v408, v409, v410, v411, v412, v413, v414, n415, n416, ⟨by omega, by omega, by omega, by omega, by omega, by omega, by omega⟩, ⟨by omega, by omega⟩, zb419, k420⟩ fs396 hc401 gy k393 (by omega) (by omega) (by omega)) mf_X12_jumps w_1387 0 k420 rfl rfl rfl (Nat.le_of_ble_eq_true rfl) ⟨(Nat.le_of_ble_eq_true rfl), (Nat.le_of_ble_eq_true rfl)⟩ ⟨(Nat.le_of_ble_eq_true rfl), (Nat.le_of_ble_eq_true rfl)⟩ dX12_readsCondition_215 rfl (fun w429 h427 => ?_)
                            obtain ⟨hW430, kq431, x432⟩ := h427
                            have k433 : w429[4]? = some (bA E (a 4) 260 tf) := keeps_at kq431 k392 (by first | decide | omega | (dsimp only; omega))
                            have kp434 := keeps_tr kp394 kq431 (fun q hq => by first | omega | (dsimp only at *; omega))
                            obtain ⟨hj435, hj436, hj437⟩ := x432
                            obtain ⟨v438, v439, v440, v441, v442, v443, v444, n445, n446, bo447, bo448, zb449, k450⟩ := hj435
                            refine x_goto C (tgt := 40) dX12_readsCondition_218 (by decide) ?_
                            refine x_lv (lv1 := [(0, .ref (a 0))]) [0] rfl ?_
                            exact ih40 (py + 1) (cy + 1) (wt395 + 1) ny ((upd fs396 cy (nI (1048576 * 12 + 0)))) ((upd gy wt395 (nI (1048576 * 12 + cy)))) (((12, cy) :: We397)) w429 hW430 (by omega) ⟨v438, v439, v440, v441, v442, v443, v444, n445, n446, ⟨by omega, by omega, by omega, by omega, by omega, by omega, by omega⟩, ⟨by omega, by omega⟩, zb449, k450⟩ k433 hj436 hj437 (wR_push (op := 12) (pay := cy) hc398 (by omega) (by omega)) (CI_jump hc402 (Or.inr rfl)) (cOps_cons (e := (12, cy)) ⟨by show 10 ≤ 12; omega, by show 12 ≤ 13; omega⟩ hc403) (bot_push hc404) (by rw [wgt_hd0 (e := (12, cy)) (by show ¬ ((2 ≤ 12 ∧ 12 ≤ 6) ∨ 12 = 10); omega)]; omega) (ag_upd (fun k hk => (hc406 k hk).trans (iv92_9 k hk)) (CI_le hc402)) kp434
                          · skip
                            have hp451 := hv_lt (x425.symm.trans c426) (by decide)
                            refine x_bipush C (v := 11) dX12_readsCondition_208 (by decide) rfl ?_
                            refine x_goto C (tgt := 215) dX12_readsCondition_210 (by decide) ?_
                            refine x_vv C (As := [.int 11]) (rest := []) (m_jumps11 E l a cd hG w388 hW389 tp py le cy wt395 sm lm ny ⟨v408, v409, v410, v411, v412, v413, v414, n415, n416, ⟨by omega, by omega, by omega, by omega, by omega, by omega, by omega⟩, ⟨by omega, by omega⟩, zb419, k420⟩ fs396 hc401 gy k393 (by omega) (by omega) (by omega)) mf_X12_jumps w_1387 0 k420 rfl rfl rfl (Nat.le_of_ble_eq_true rfl) ⟨(Nat.le_of_ble_eq_true rfl), (Nat.le_of_ble_eq_true rfl)⟩ ⟨(Nat.le_of_ble_eq_true rfl), (Nat.le_of_ble_eq_true rfl)⟩ dX12_readsCondition_215 rfl (fun w454 h452 => ?_)
                            obtain ⟨hW455, kq456, x457⟩ := h452
                            have k458 : w454[4]? = some (bA E (a 4) 260 tf) := keeps_at kq456 k392 (by first | decide | omega | (dsimp only; omega))
                            have kp459 := keeps_tr kp394 kq456 (fun q hq => by first | omega | (dsimp only at *; omega))
                            obtain ⟨hj460, hj461, hj462⟩ := x457
                            obtain ⟨v463, v464, v465, v466, v467, v468, v469, n470, n471, bo472, bo473, zb474, k475⟩ := hj460
                            refine x_goto C (tgt := 40) dX12_readsCondition_218 (by decide) ?_
                            refine x_lv (lv1 := [(0, .ref (a 0))]) [0] rfl ?_
                            exact ih40 (py + 1) (cy + 1) (wt395 + 1) ny ((upd fs396 cy (nI (1048576 * 11 + 0)))) ((upd gy wt395 (nI (1048576 * 11 + cy)))) (((11, cy) :: We397)) w454 hW455 (by omega) ⟨v463, v464, v465, v466, v467, v468, v469, n470, n471, ⟨by omega, by omega, by omega, by omega, by omega, by omega, by omega⟩, ⟨by omega, by omega⟩, zb474, k475⟩ k458 hj461 hj462 (wR_push (op := 11) (pay := cy) hc398 (by omega) (by omega)) (CI_jump hc402 (Or.inl rfl)) (cOps_cons (e := (11, cy)) ⟨by show 10 ≤ 11; omega, by show 11 ≤ 13; omega⟩ hc403) (bot_push hc404) (by rw [wgt_hd0 (e := (11, cy)) (by show ¬ ((2 ≤ 11 ∧ 11 ≤ 6) ∨ 11 = 10); omega)]; omega) (ag_upd (fun k hk => (hc406 k hk).trans (iv92_9 k hk)) (CI_le hc402)) kp459
                      · skip
                        refine x_aload_n C dX12_readsCondition_161 rfl 0 rfl rfl ?_
                        refine x_vi C (As := []) (rest := []) (m_here E l a cd hG wl92 hWl92 tp py le cy wy sm lm ny ⟨v264, v265, v266, v267, v268, v269, v270, n271, n272, ⟨by omega, by omega, by omega, by omega, by omega, by omega, by omega⟩, ⟨by omega, by omega⟩, zb275, k276⟩ tf iv92_1) mf_X12_here w_1317 0 k276 rfl rfl rfl (Nat.le_of_ble_eq_true rfl) ⟨(Nat.le_of_ble_eq_true rfl), (Nat.le_of_ble_eq_true rfl)⟩ ⟨(Nat.le_of_ble_eq_true rfl), (Nat.le_of_ble_eq_true rfl)⟩ dX12_readsCondition_162 rfl (fun r477 w478 h476 => ?_)
                        obtain ⟨hW479, x480⟩ := h476
                        refine x_ws hW479 ?_
                        refine x_bipush C (v := 124) dX12_readsCondition_165 (by decide) rfl ?_
                        refine x_icmp_eq C (tgt := 180) dX12_readsCondition_167 (by decide) rfl (fun c481 => ?_) (fun c481 => ?_)
                        · skip
                          have hp482 := hv_lt (x480.symm.trans c481) (by decide)
                          refine x_aload_n C dX12_readsCondition_180 rfl 0 rfl rfl ?_
                          refine x_aload_n C dX12_readsCondition_181 rfl 0 rfl rfl ?_
                          refine x_vi C (As := []) (rest := [.ref (a 0)]) (m_here E l a cd hG wl92 hWl92 tp py le cy wy sm lm ny ⟨v264, v265, v266, v267, v268, v269, v270, n271, n272, ⟨by omega, by omega, by omega, by omega, by omega, by omega, by omega⟩, ⟨by omega, by omega⟩, zb275, k276⟩ tf iv92_1) mf_X12_here w_1317 0 k276 rfl rfl rfl (Nat.le_of_ble_eq_true rfl) ⟨(Nat.le_of_ble_eq_true rfl), (Nat.le_of_ble_eq_true rfl)⟩ ⟨(Nat.le_of_ble_eq_true rfl), (Nat.le_of_ble_eq_true rfl)⟩ dX12_readsCondition_182 rfl (fun r484 w485 h483 => ?_)
                          obtain ⟨hW486, x487⟩ := h483
                          refine x_ws hW486 ?_
                          refine x_bipush C (v := 124) dX12_readsCondition_185 (by decide) rfl ?_
                          refine x_icmp_ne C (tgt := 194) dX12_readsCondition_187 (by decide) rfl (fun c488 => ?_) (fun c488 => ?_)
                          · skip
                            refine x_iconst C (v := 0) dX12_readsCondition_194 (by decide) rfl ?_
                            refine x_vv C (As := [.int 0]) (rest := []) (m_lands0 E l a cd hG wl92 hWl92 tp py le cy wy sm lm ny ⟨v264, v265, v266, v267, v268, v269, v270, n271, n272, ⟨by omega, by omega, by omega, by omega, by omega, by omega, by omega⟩, ⟨by omega, by omega⟩, zb275, k276⟩ fy iv92_2 gy iv92_3 Wy iv92_4 cm iv92_5 iv92_6 iv92_7 (by omega)) mf_X12_lands w_1383 0 k276 rfl rfl rfl (Nat.le_of_ble_eq_true rfl) ⟨(Nat.le_of_ble_eq_true rfl), (Nat.le_of_ble_eq_true rfl)⟩ ⟨(Nat.le_of_ble_eq_true rfl), (Nat.le_of_ble_eq_true rfl)⟩ dX12_readsCondition_195 rfl (fun w491 h489 => ?_)
                            obtain ⟨hW492, kq493, x494⟩ := h489
                            have k495 : w491[4]? = some (bA E (a 4) 260 tf) := keeps_at kq493 iv92_1 (by first | decide | omega | (dsimp only; omega))
                            have k496 : w491[6]? = some (iA E (a 6) 260 gy) := keeps_at kq493 iv92_3 (by first | decide | omega | (dsimp only; omega))
                            have kp497 := keeps_tr kq92 kq493 (fun q hq => by first | omega | (dsimp only at *; omega))
                            obtain ⟨wt498, fs499, We500, hc501, hc502, hc503, hc504, hc505, hc506, hc507, hc508, hc509⟩ := x494
                            obtain ⟨v510, v511, v512, v513, v514, v515, v516, n517, n518, bo519, bo520, zb521, k522⟩ := hc503
                            refine x_aload_n C dX12_readsCondition_198 rfl 0 rfl rfl ?_
                            refine x_aload_n C dX12_readsCondition_199 rfl 0 rfl rfl ?_
                            refine x_vi C (As := []) (rest := [.ref (a 0)]) (m_here E l a cd hG w491 hW492 tp py le cy wt498 sm lm ny ⟨v510, v511, v512, v513, v514, v515, v516, n517, n518, ⟨by omega, by omega, by omega, by omega, by omega, by omega, by omega⟩, ⟨by omega, by omega⟩, zb521, k522⟩ tf k495) mf_X12_here w_1317 0 k522 rfl rfl rfl (Nat.le_of_ble_eq_true rfl) ⟨(Nat.le_of_ble_eq_true rfl), (Nat.le_of_ble_eq_true rfl)⟩ ⟨(Nat.le_of_ble_eq_true rfl), (Nat.le_of_ble_eq_true rfl)⟩ dX12_readsCondition_200 rfl (fun r524 w525 h523 => ?_)
                            obtain ⟨hW526, x527⟩ := h523
                            refine x_ws hW526 ?_
                            refine x_bipush C (v := 38) dX12_readsCondition_203 (by decide) rfl ?_
                            refine x_icmp_ne C (tgt := 213) dX12_readsCondition_205 (by decide) rfl (fun c528 => ?_) (fun c528 => ?_)
                            · skip
                              refine x_bipush C (v := 12) dX12_readsCondition_213 (by decide) rfl ?_
                              refine x_vv C (As := [.int 12]) (rest := []) (m_jumps12 E l a cd hG w491 hW492 tp py le cy wt498 sm lm ny ⟨v510, v511, v512, v513, v514, v515, v516, n517, n518, ⟨by omega, by omega, by omega, by omega, by omega, by omega, by omega⟩, ⟨by omega, by omega⟩, zb521, k522⟩ fs499 hc504 gy k496 (by omega) (by omega) (by omega)) mf_X12_jumps w_1387 0 k522 rfl rfl rfl (Nat.le_of_ble_eq_true rfl) ⟨(Nat.le_of_ble_eq_true rfl), (Nat.le_of_ble_eq_true rfl)⟩ ⟨(Nat.le_of_ble_eq_true rfl), (Nat.le_of_ble_eq_true rfl)⟩ dX12_readsCondition_215 rfl (fun w531 h529 => ?_)
                              obtain ⟨hW532, kq533, x534⟩ := h529
                              have k535 : w531[4]? = some (bA E (a 4) 260 tf) := keeps_at kq533 k495 (by first | decide | omega | (dsimp only; omega))
                              have kp536 := keeps_tr kp497 kq533 (fun q hq => by first | omega | (dsimp only at *; omega))
                              obtain ⟨hj537, hj538, hj539⟩ := x534
                              obtain ⟨v540, v541, v542, v543, v544, v545, v546, n547, n548, bo549, bo550, zb551, k552⟩ := hj537
                              refine x_goto C (tgt := 40) dX12_readsCondition_218 (by decide) ?_
                              refine x_lv (lv1 := [(0, .ref (a 0))]) [0] rfl ?_
                              exact ih40 (py + 1) (cy + 1) (wt498 + 1) ny ((upd fs499 cy (nI (1048576 * 12 + 0)))) ((upd gy wt498 (nI (1048576 * 12 + cy)))) (((12, cy) :: We500)) w531 hW532 (by omega) ⟨v540, v541, v542, v543, v544, v545, v546, n547, n548, ⟨by omega, by omega, by omega, by omega, by omega, by omega, by omega⟩, ⟨by omega, by omega⟩, zb551, k552⟩ k535 hj538 hj539 (wR_push (op := 12) (pay := cy) hc501 (by omega) (by omega)) (CI_jump hc505 (Or.inr rfl)) (cOps_cons (e := (12, cy)) ⟨by show 10 ≤ 12; omega, by show 12 ≤ 13; omega⟩ hc506) (bot_push hc507) (by rw [wgt_hd0 (e := (12, cy)) (by show ¬ ((2 ≤ 12 ∧ 12 ≤ 6) ∨ 12 = 10); omega)]; omega) (ag_upd (fun k hk => (hc509 k hk).trans (iv92_9 k hk)) (CI_le hc505)) kp536
                            · skip
                              have hp553 := hv_lt (x527.symm.trans c528) (by decide)
                              refine x_bipush C (v := 11) dX12_readsCondition_208 (by decide) rfl ?_
                              refine x_goto C (tgt := 215) dX12_readsCondition_210 (by decide) ?_
                              refine x_vv C (As := [.int 11]) (rest := []) (m_jumps11 E l a cd hG w491 hW492 tp py le cy wt498 sm lm ny ⟨v510, v511, v512, v513, v514, v515, v516, n517, n518, ⟨by omega, by omega, by omega, by omega, by omega, by omega, by omega⟩, ⟨by omega, by omega⟩, zb521, k522⟩ fs499 hc504 gy k496 (by omega) (by omega) (by omega)) mf_X12_jumps w_1387 0 k522 rfl rfl rfl (Nat.le_of_ble_eq_true rfl) ⟨(Nat.le_of_ble_eq_true rfl), (Nat.le_of_ble_eq_true rfl)⟩ ⟨(Nat.le_of_ble_eq_true rfl), (Nat.le_of_ble_eq_true rfl)⟩ dX12_readsCondition_215 rfl (fun w556 h554 => ?_)
                              obtain ⟨hW557, kq558, x559⟩ := h554
                              have k560 : w556[4]? = some (bA E (a 4) 260 tf) := keeps_at kq558 k495 (by first | decide | omega | (dsimp only; omega))
                              have kp561 := keeps_tr kp497 kq558 (fun q hq => by first | omega | (dsimp only at *; omega))
                              obtain ⟨hj562, hj563, hj564⟩ := x559
                              obtain ⟨v565, v566, v567, v568, v569, v570, v571, n572, n573, bo574, bo575, zb576, k577⟩ := hj562
                              refine x_goto C (tgt := 40) dX12_readsCondition_218 (by decide) ?_
                              refine x_lv (lv1 := [(0, .ref (a 0))]) [0] rfl ?_
                              exact ih40 (py + 1) (cy + 1) (wt498 + 1) ny ((upd fs499 cy (nI (1048576 * 11 + 0)))) ((upd gy wt498 (nI (1048576 * 11 + cy)))) (((11, cy) :: We500)) w556 hW557 (by omega) ⟨v565, v566, v567, v568, v569, v570, v571, n572, n573, ⟨by omega, by omega, by omega, by omega, by omega, by omega, by omega⟩, ⟨by omega, by omega⟩, zb576, k577⟩ k560 hj563 hj564 (wR_push (op := 11) (pay := cy) hc501 (by omega) (by omega)) (CI_jump hc505 (Or.inl rfl)) (cOps_cons (e := (11, cy)) ⟨by show 10 ≤ 11; omega, by show 11 ≤ 13; omega⟩ hc506) (bot_push hc507) (by rw [wgt_hd0 (e := (11, cy)) (by show ¬ ((2 ≤ 11 ∧ 11 ≤ 6) ∨ 11 = 10); omega)]; omega) (ag_upd (fun k hk => (hc509 k hk).trans (iv92_9 k hk)) (CI_le hc505)) kp561
                          · skip
                            have hp578 := hv_lt (x487.symm.trans c488) (by decide)
                            refine x_iconst C (v := 1) dX12_readsCondition_190 (by decide) rfl ?_
                            refine x_goto C (tgt := 195) dX12_readsCondition_191 (by decide) ?_
                            refine x_vv C (As := [.int 1]) (rest := []) (m_lands1 E l a cd hG wl92 hWl92 tp py le cy wy sm lm ny ⟨v264, v265, v266, v267, v268, v269, v270, n271, n272, ⟨by omega, by omega, by omega, by omega, by omega, by omega, by omega⟩, ⟨by omega, by omega⟩, zb275, k276⟩ fy iv92_2 gy iv92_3 Wy iv92_4 cm iv92_5 iv92_6 iv92_7 (by omega)) mf_X12_lands w_1383 0 k276 rfl rfl rfl (Nat.le_of_ble_eq_true rfl) ⟨(Nat.le_of_ble_eq_true rfl), (Nat.le_of_ble_eq_true rfl)⟩ ⟨(Nat.le_of_ble_eq_true rfl), (Nat.le_of_ble_eq_true rfl)⟩ dX12_readsCondition_195 rfl (fun w581 h579 => ?_)
                            obtain ⟨hW582, kq583, x584⟩ := h579
                            have k585 : w581[4]? = some (bA E (a 4) 260 tf) := keeps_at kq583 iv92_1 (by first | decide | omega | (dsimp only; omega))
                            have k586 : w581[6]? = some (iA E (a 6) 260 gy) := keeps_at kq583 iv92_3 (by first | decide | omega | (dsimp only; omega))
                            have kp587 := keeps_tr kq92 kq583 (fun q hq => by first | omega | (dsimp only at *; omega))
                            obtain ⟨wt588, fs589, We590, hc591, hc592, hc593, hc594, hc595, hc596, hc597, hc598, hc599, hc600⟩ := x584
                            obtain ⟨v601, v602, v603, v604, v605, v606, v607, n608, n609, bo610, bo611, zb612, k613⟩ := hc593
                            refine x_aload_n C dX12_readsCondition_198 rfl 0 rfl rfl ?_
                            refine x_aload_n C dX12_readsCondition_199 rfl 0 rfl rfl ?_
                            refine x_vi C (As := []) (rest := [.ref (a 0)]) (m_here E l a cd hG w581 hW582 tp py le cy wt588 sm lm ny ⟨v601, v602, v603, v604, v605, v606, v607, n608, n609, ⟨by omega, by omega, by omega, by omega, by omega, by omega, by omega⟩, ⟨by omega, by omega⟩, zb612, k613⟩ tf k585) mf_X12_here w_1317 0 k613 rfl rfl rfl (Nat.le_of_ble_eq_true rfl) ⟨(Nat.le_of_ble_eq_true rfl), (Nat.le_of_ble_eq_true rfl)⟩ ⟨(Nat.le_of_ble_eq_true rfl), (Nat.le_of_ble_eq_true rfl)⟩ dX12_readsCondition_200 rfl (fun r615 w616 h614 => ?_)
                            obtain ⟨hW617, x618⟩ := h614
                            refine x_ws hW617 ?_
                            refine x_bipush C (v := 38) dX12_readsCondition_203 (by decide) rfl ?_
                            refine x_icmp_ne C (tgt := 213) dX12_readsCondition_205 (by decide) rfl (fun c619 => ?_) (fun c619 => ?_)
                            · skip
                              refine x_bipush C (v := 12) dX12_readsCondition_213 (by decide) rfl ?_
                              refine x_vv C (As := [.int 12]) (rest := []) (m_jumps12 E l a cd hG w581 hW582 tp py le cy wt588 sm lm ny ⟨v601, v602, v603, v604, v605, v606, v607, n608, n609, ⟨by omega, by omega, by omega, by omega, by omega, by omega, by omega⟩, ⟨by omega, by omega⟩, zb612, k613⟩ fs589 hc594 gy k586 (by omega) (by omega) (by omega)) mf_X12_jumps w_1387 0 k613 rfl rfl rfl (Nat.le_of_ble_eq_true rfl) ⟨(Nat.le_of_ble_eq_true rfl), (Nat.le_of_ble_eq_true rfl)⟩ ⟨(Nat.le_of_ble_eq_true rfl), (Nat.le_of_ble_eq_true rfl)⟩ dX12_readsCondition_215 rfl (fun w622 h620 => ?_)
                              obtain ⟨hW623, kq624, x625⟩ := h620
                              have k626 : w622[4]? = some (bA E (a 4) 260 tf) := keeps_at kq624 k585 (by first | decide | omega | (dsimp only; omega))
                              have kp627 := keeps_tr kp587 kq624 (fun q hq => by first | omega | (dsimp only at *; omega))
                              obtain ⟨hj628, hj629, hj630⟩ := x625
                              obtain ⟨v631, v632, v633, v634, v635, v636, v637, n638, n639, bo640, bo641, zb642, k643⟩ := hj628
                              refine x_goto C (tgt := 40) dX12_readsCondition_218 (by decide) ?_
                              refine x_lv (lv1 := [(0, .ref (a 0))]) [0] rfl ?_
                              exact ih40 (py + 1) (cy + 1) (wt588 + 1) ny ((upd fs589 cy (nI (1048576 * 12 + 0)))) ((upd gy wt588 (nI (1048576 * 12 + cy)))) (((12, cy) :: We590)) w622 hW623 (by omega) ⟨v631, v632, v633, v634, v635, v636, v637, n638, n639, ⟨by omega, by omega, by omega, by omega, by omega, by omega, by omega⟩, ⟨by omega, by omega⟩, zb642, k643⟩ k626 hj629 hj630 (wR_push (op := 12) (pay := cy) hc591 (by omega) (by omega)) (CI_jump hc595 (Or.inr rfl)) (cOps_cons (e := (12, cy)) ⟨by show 10 ≤ 12; omega, by show 12 ≤ 13; omega⟩ hc596) (bot_push hc597) (by rw [wgt_hd0 (e := (12, cy)) (by show ¬ ((2 ≤ 12 ∧ 12 ≤ 6) ∨ 12 = 10); omega)]; omega) (ag_upd (fun k hk => (hc599 k hk).trans (iv92_9 k hk)) (CI_le hc595)) kp627
                            · skip
                              have hp644 := hv_lt (x618.symm.trans c619) (by decide)
                              refine x_bipush C (v := 11) dX12_readsCondition_208 (by decide) rfl ?_
                              refine x_goto C (tgt := 215) dX12_readsCondition_210 (by decide) ?_
                              refine x_vv C (As := [.int 11]) (rest := []) (m_jumps11 E l a cd hG w581 hW582 tp py le cy wt588 sm lm ny ⟨v601, v602, v603, v604, v605, v606, v607, n608, n609, ⟨by omega, by omega, by omega, by omega, by omega, by omega, by omega⟩, ⟨by omega, by omega⟩, zb612, k613⟩ fs589 hc594 gy k586 (by omega) (by omega) (by omega)) mf_X12_jumps w_1387 0 k613 rfl rfl rfl (Nat.le_of_ble_eq_true rfl) ⟨(Nat.le_of_ble_eq_true rfl), (Nat.le_of_ble_eq_true rfl)⟩ ⟨(Nat.le_of_ble_eq_true rfl), (Nat.le_of_ble_eq_true rfl)⟩ dX12_readsCondition_215 rfl (fun w647 h645 => ?_)
                              obtain ⟨hW648, kq649, x650⟩ := h645
                              have k651 : w647[4]? = some (bA E (a 4) 260 tf) := keeps_at kq649 k585 (by first | decide | omega | (dsimp only; omega))
                              have kp652 := keeps_tr kp587 kq649 (fun q hq => by first | omega | (dsimp only at *; omega))
                              obtain ⟨hj653, hj654, hj655⟩ := x650
                              obtain ⟨v656, v657, v658, v659, v660, v661, v662, n663, n664, bo665, bo666, zb667, k668⟩ := hj653
                              refine x_goto C (tgt := 40) dX12_readsCondition_218 (by decide) ?_
                              refine x_lv (lv1 := [(0, .ref (a 0))]) [0] rfl ?_
                              exact ih40 (py + 1) (cy + 1) (wt588 + 1) ny ((upd fs589 cy (nI (1048576 * 11 + 0)))) ((upd gy wt588 (nI (1048576 * 11 + cy)))) (((11, cy) :: We590)) w647 hW648 (by omega) ⟨v656, v657, v658, v659, v660, v661, v662, n663, n664, ⟨by omega, by omega, by omega, by omega, by omega, by omega, by omega⟩, ⟨by omega, by omega⟩, zb667, k668⟩ k651 hj654 hj655 (wR_push (op := 11) (pay := cy) hc591 (by omega) (by omega)) (CI_jump hc595 (Or.inl rfl)) (cOps_cons (e := (11, cy)) ⟨by show 10 ≤ 11; omega, by show 11 ≤ 13; omega⟩ hc596) (bot_push hc597) (by rw [wgt_hd0 (e := (11, cy)) (by show ¬ ((2 ≤ 11 ∧ 11 ≤ 6) ∨ 11 = 10); omega)]; omega) (ag_upd (fun k hk => (hc599 k hk).trans (iv92_9 k hk)) (CI_le hc595)) kp652
                        · skip
                          refine x_aload_n C dX12_readsCondition_170 rfl 0 rfl rfl ?_
                          refine x_iconst C (v := 1) dX12_readsCondition_171 (by decide) rfl ?_
                          refine x_aload_n C dX12_readsCondition_172 rfl 0 rfl rfl ?_
                          refine x_get C (ci := 11) (k := 5) 0 k276 rfl in_X12 (by decide) w_1123 rfl dX12_readsCondition_173 rfl ?_
                          refine x_vi C (As := [.int 1, .int (nI py)]) (rest := []) (m_wrongAt E l a cd hG wl92 hWl92 (1 : Int32) ((nI py)) tp py le cy wy sm lm ny ⟨v264, v265, v266, v267, v268, v269, v270, n271, n272, ⟨by omega, by omega, by omega, by omega, by omega, by omega, by omega⟩, ⟨by omega, by omega⟩, zb275, k276⟩) mf_X12_wrongAt w_1324 0 k276 rfl rfl rfl (Nat.le_of_ble_eq_true rfl) ⟨(Nat.le_of_ble_eq_true rfl), (Nat.le_of_ble_eq_true rfl)⟩ ⟨(Nat.le_of_ble_eq_true rfl), (Nat.le_of_ble_eq_true rfl)⟩ dX12_readsCondition_176 rfl (fun r670 w671 h669 => ?_)
                          obtain ⟨hW672, kq673, e674, x675⟩ := h669
                          refine x_top e674 ?_
                          have k676 : w671[4]? = some (bA E (a 4) 260 tf) := keeps_at kq673 iv92_1 (by first | decide | omega | (dsimp only; omega))
                          have k677 : w671[5]? = some (iA E (a 5) 260 fy) := keeps_at kq673 iv92_2 (by first | decide | omega | (dsimp only; omega))
                          have k678 : w671[6]? = some (iA E (a 6) 260 gy) := keeps_at kq673 iv92_3 (by first | decide | omega | (dsimp only; omega))
                          have kp679 := keeps_tr kq92 kq673 (fun q hq => by first | omega | (dsimp only at *; omega))
                          obtain ⟨v680, v681, v682, v683, v684, v685, v686, n687, n688, bo689, bo690, zb691, k692⟩ := x675
                          exact x_zret C hr hlk rfl dX12_readsCondition_179 ⟨hW672, kp679, (Or.inl rfl), (Or.inl ⟨rfl, ⟨py, cy, wy, _, _, ⟨⟨_, ⟨v680, v681, v682, v683, v684, v685, v686, n687, n688, ⟨by omega, by omega, by omega, by omega, by omega, by omega, by omega⟩, ⟨by omega, by omega⟩, zb691, k692⟩⟩, k677, k678⟩⟩⟩)⟩
                    · skip
                      have hp693 := hv_lt (x281.symm.trans c282) (by decide)
                      refine x_aload_n C dX12_readsCondition_101 rfl 0 rfl rfl ?_
                      refine x_iconst C (v := 1) dX12_readsCondition_102 (by decide) rfl ?_
                      refine x_vv C (As := [.int 1]) (rest := []) (m_lands1 E l a cd hG wl92 hWl92 tp py le cy wy sm lm ny ⟨v264, v265, v266, v267, v268, v269, v270, n271, n272, ⟨by omega, by omega, by omega, by omega, by omega, by omega, by omega⟩, ⟨by omega, by omega⟩, zb275, k276⟩ fy iv92_2 gy iv92_3 Wy iv92_4 cm iv92_5 iv92_6 iv92_7 (by omega)) mf_X12_lands w_1383 0 k276 rfl rfl rfl (Nat.le_of_ble_eq_true rfl) ⟨(Nat.le_of_ble_eq_true rfl), (Nat.le_of_ble_eq_true rfl)⟩ ⟨(Nat.le_of_ble_eq_true rfl), (Nat.le_of_ble_eq_true rfl)⟩ dX12_readsCondition_103 rfl (fun w696 h694 => ?_)
                      obtain ⟨hW697, kq698, x699⟩ := h694
                      have k700 : w696[4]? = some (bA E (a 4) 260 tf) := keeps_at kq698 iv92_1 (by first | decide | omega | (dsimp only; omega))
                      have k701 : w696[6]? = some (iA E (a 6) 260 gy) := keeps_at kq698 iv92_3 (by first | decide | omega | (dsimp only; omega))
                      have kp702 := keeps_tr kq92 kq698 (fun q hq => by first | omega | (dsimp only at *; omega))
                      obtain ⟨wt703, fs704, We705, hc706, hc707, hc708, hc709, hc710, hc711, hc712, hc713, hc714, hc715⟩ := x699
                      obtain ⟨v716, v717, v718, v719, v720, v721, v722, n723, n724, bo725, bo726, zb727, k728⟩ := hc708
                      rcases We705 with _ | ⟨e, W1⟩
                      · exact (bot_nil hc712).elim
                      have hw1 := hc706.1
                      have hnj := hc715 e W1 rfl
                      have hwl := wR_len hc706.2.2.2.2
                      have hwe : wgt W1 ≤ wgt (e :: W1) := Nat.le_add_left _ _
                      refine x_aload_n C dX12_readsCondition_106 rfl 0 rfl rfl ?_
                      refine x_aload_n C dX12_readsCondition_107 rfl 0 rfl rfl ?_
                      refine x_get C (ci := 11) (k := 11) 0 k728 rfl in_X12 (by decide) w_1129 rfl dX12_readsCondition_108 rfl ?_
                      refine x_iconst C (v := 1) dX12_readsCondition_111 (by decide) rfl ?_
                      refine x_isub C (v := (nI (wt703 - 1))) dX12_readsCondition_112 (pk_sub (a := wt703) (b := 1) (by omega)) rfl ?_
                      obtain ⟨w729, hw730⟩ : ∃ w : va_W, w = List.set w696 0 (ob (a 0) 11 [.ref (a 1), .ref (a 2), .ref (a 3), .ref (a 4), .int (nI tp), .int (nI py), .int (nI le), .int v716, .int ny, .int v717, .int (nI cy), .int (nI (wt703 - 1)), .int (nI sm), .int (nI (cd.2.2.2.2.2)), .ref (a 5), .ref (a 6), .ref (a 7), .ref (a 8), .ref (a 9), .ref (a 10), .ref (a 11), .ref (a 12), .ref (a 13), .ref (a 14), .ref (a 15), .ref (a 16), .ref (a 17), .int (nI lm), .ref (a 18), .ref (a 19), .ref (a 20), .ref (a 21), .int v718, .int v719, .int v720, .int v721, .int (nI n723), .int (nI n724), .ref (a 22), .ref (a 23), .ref (a 24), .ref (a 25), .ref (a 26), .ref (a 27), .ref (a 28), .ref (a 29), .ref (a 30), .int v722]) := ⟨_, rfl⟩
                      refine x_put C (ci := 11) (k := 11) (ty := .int) 0 k728 rfl in_X12 tyX12 tyX12_ok nmX12 (by decide) w_1129 rfl rfl rfl rfl (Nat.le_of_ble_eq_true rfl) hw730.symm dX12_readsCondition_113 rfl ?_
                      have hW731 : WX (okM E a cd) w729 := by rw [hw730]; exact hW697.set (k := 0) rfl ⟨tp, py, le, v716, ny, v717, cy, (wt703 - 1), sm, lm, v718, v719, v720, v721, n723, n724, v722, by omega, by omega, by omega, by omega, by omega, by omega, by omega, by omega, by omega, zb727, rfl⟩
                      have k732 : w729[4]? = some (bA E (a 4) 260 tf) := by rw [hw730]; exact set_ne k700 (by decide)
                      have k733 : w729[6]? = some (iA E (a 6) 260 gy) := by rw [hw730]; exact set_ne k701 (by decide)
                      have k734 : w729[0]? = some (ob (a 0) 11 [.ref (a 1), .ref (a 2), .ref (a 3), .ref (a 4), .int (nI tp), .int (nI py), .int (nI le), .int v716, .int ny, .int v717, .int (nI cy), .int (nI (wt703 - 1)), .int (nI sm), .int (nI (cd.2.2.2.2.2)), .ref (a 5), .ref (a 6), .ref (a 7), .ref (a 8), .ref (a 9), .ref (a 10), .ref (a 11), .ref (a 12), .ref (a 13), .ref (a 14), .ref (a 15), .ref (a 16), .ref (a 17), .int (nI lm), .ref (a 18), .ref (a 19), .ref (a 20), .ref (a 21), .int v718, .int v719, .int v720, .int v721, .int (nI n723), .int (nI n724), .ref (a 22), .ref (a 23), .ref (a 24), .ref (a 25), .ref (a 26), .ref (a 27), .ref (a 28), .ref (a 29), .ref (a 30), .int v722]) := by rw [hw730]; exact set_eq k728
                      have k735 : w729[5]? = some (iA E (a 5) 260 fs704) := by rw [hw730]; exact set_ne hc709 (by decide)
                      have kp736 := keeps_set kp702 hw730 (by first | exact rfl | decide | omega | (dsimp only; omega))
                      refine x_aload_n C dX12_readsCondition_116 rfl 0 rfl rfl ?_
                      refine x_aload_n C dX12_readsCondition_117 rfl 0 rfl rfl ?_
                      refine x_get C (ci := 11) (k := 9) 0 k734 rfl in_X12 (by decide) w_1127 rfl dX12_readsCondition_118 rfl ?_
                      refine x_iconst C (v := 1) dX12_readsCondition_121 (by decide) rfl ?_
                      refine x_isub C (v := (v717 - (1 : Int32))) dX12_readsCondition_122 rfl rfl ?_
                      refine x_any (fun v737 => ?_)
                      obtain ⟨w738, hw739⟩ : ∃ w : va_W, w = List.set w729 0 (ob (a 0) 11 [.ref (a 1), .ref (a 2), .ref (a 3), .ref (a 4), .int (nI tp), .int (nI py), .int (nI le), .int v716, .int ny, .int v737, .int (nI cy), .int (nI (wt703 - 1)), .int (nI sm), .int (nI (cd.2.2.2.2.2)), .ref (a 5), .ref (a 6), .ref (a 7), .ref (a 8), .ref (a 9), .ref (a 10), .ref (a 11), .ref (a 12), .ref (a 13), .ref (a 14), .ref (a 15), .ref (a 16), .ref (a 17), .int (nI lm), .ref (a 18), .ref (a 19), .ref (a 20), .ref (a 21), .int v718, .int v719, .int v720, .int v721, .int (nI n723), .int (nI n724), .ref (a 22), .ref (a 23), .ref (a 24), .ref (a 25), .ref (a 26), .ref (a 27), .ref (a 28), .ref (a 29), .ref (a 30), .int v722]) := ⟨_, rfl⟩
                      refine x_put C (ci := 11) (k := 9) (ty := .int) 0 k734 rfl in_X12 tyX12 tyX12_ok nmX12 (by decide) w_1127 rfl rfl rfl rfl (Nat.le_of_ble_eq_true rfl) hw739.symm dX12_readsCondition_123 rfl ?_
                      have hW740 : WX (okM E a cd) w738 := by rw [hw739]; exact hW731.set (k := 0) rfl ⟨tp, py, le, v716, ny, v737, cy, (wt703 - 1), sm, lm, v718, v719, v720, v721, n723, n724, v722, by omega, by omega, by omega, by omega, by omega, by omega, by omega, by omega, by omega, zb727, rfl⟩
                      have k741 : w738[4]? = some (bA E (a 4) 260 tf) := by rw [hw739]; exact set_ne k732 (by decide)
                      have k742 : w738[6]? = some (iA E (a 6) 260 gy) := by rw [hw739]; exact set_ne k733 (by decide)
                      have k743 : w738[0]? = some (ob (a 0) 11 [.ref (a 1), .ref (a 2), .ref (a 3), .ref (a 4), .int (nI tp), .int (nI py), .int (nI le), .int v716, .int ny, .int v737, .int (nI cy), .int (nI (wt703 - 1)), .int (nI sm), .int (nI (cd.2.2.2.2.2)), .ref (a 5), .ref (a 6), .ref (a 7), .ref (a 8), .ref (a 9), .ref (a 10), .ref (a 11), .ref (a 12), .ref (a 13), .ref (a 14), .ref (a 15), .ref (a 16), .ref (a 17), .int (nI lm), .ref (a 18), .ref (a 19), .ref (a 20), .ref (a 21), .int v718, .int v719, .int v720, .int v721, .int (nI n723), .int (nI n724), .ref (a 22), .ref (a 23), .ref (a 24), .ref (a 25), .ref (a 26), .ref (a 27), .ref (a 28), .ref (a 29), .ref (a 30), .int v722]) := by rw [hw739]; exact set_eq k734
                      have k744 : w738[5]? = some (iA E (a 5) 260 fs704) := by rw [hw739]; exact set_ne k735 (by decide)
                      have kp745 := keeps_set kp736 hw739 (by first | exact rfl | decide | omega | (dsimp only; omega))
                      refine x_aload_n C dX12_readsCondition_126 rfl 0 rfl rfl ?_
                      refine x_aload_n C dX12_readsCondition_127 rfl 0 rfl rfl ?_
                      refine x_get C (ci := 11) (k := 5) 0 k743 rfl in_X12 (by decide) w_1123 rfl dX12_readsCondition_128 rfl ?_
                      refine x_iconst C (v := 1) dX12_readsCondition_131 (by decide) rfl ?_
                      refine x_iadd C (v := (nI (py + 1))) dX12_readsCondition_132 (nI_add py 1) rfl ?_
                      obtain ⟨w746, hw747⟩ : ∃ w : va_W, w = List.set w738 0 (ob (a 0) 11 [.ref (a 1), .ref (a 2), .ref (a 3), .ref (a 4), .int (nI tp), .int (nI (py + 1)), .int (nI le), .int v716, .int ny, .int v737, .int (nI cy), .int (nI (wt703 - 1)), .int (nI sm), .int (nI (cd.2.2.2.2.2)), .ref (a 5), .ref (a 6), .ref (a 7), .ref (a 8), .ref (a 9), .ref (a 10), .ref (a 11), .ref (a 12), .ref (a 13), .ref (a 14), .ref (a 15), .ref (a 16), .ref (a 17), .int (nI lm), .ref (a 18), .ref (a 19), .ref (a 20), .ref (a 21), .int v718, .int v719, .int v720, .int v721, .int (nI n723), .int (nI n724), .ref (a 22), .ref (a 23), .ref (a 24), .ref (a 25), .ref (a 26), .ref (a 27), .ref (a 28), .ref (a 29), .ref (a 30), .int v722]) := ⟨_, rfl⟩
                      refine x_put C (ci := 11) (k := 5) (ty := .int) 0 k743 rfl in_X12 tyX12 tyX12_ok nmX12 (by decide) w_1123 rfl rfl rfl rfl (Nat.le_of_ble_eq_true rfl) hw747.symm dX12_readsCondition_133 rfl ?_
                      have hW748 : WX (okM E a cd) w746 := by rw [hw747]; exact hW740.set (k := 0) rfl ⟨tp, (py + 1), le, v716, ny, v737, cy, (wt703 - 1), sm, lm, v718, v719, v720, v721, n723, n724, v722, by omega, by omega, by omega, by omega, by omega, by omega, by omega, by omega, by omega, zb727, rfl⟩
                      have k749 : w746[4]? = some (bA E (a 4) 260 tf) := by rw [hw747]; exact set_ne k741 (by decide)
                      have k750 : w746[6]? = some (iA E (a 6) 260 gy) := by rw [hw747]; exact set_ne k742 (by decide)
                      have k751 : w746[0]? = some (ob (a 0) 11 [.ref (a 1), .ref (a 2), .ref (a 3), .ref (a 4), .int (nI tp), .int (nI (py + 1)), .int (nI le), .int v716, .int ny, .int v737, .int (nI cy), .int (nI (wt703 - 1)), .int (nI sm), .int (nI (cd.2.2.2.2.2)), .ref (a 5), .ref (a 6), .ref (a 7), .ref (a 8), .ref (a 9), .ref (a 10), .ref (a 11), .ref (a 12), .ref (a 13), .ref (a 14), .ref (a 15), .ref (a 16), .ref (a 17), .int (nI lm), .ref (a 18), .ref (a 19), .ref (a 20), .ref (a 21), .int v718, .int v719, .int v720, .int v721, .int (nI n723), .int (nI n724), .ref (a 22), .ref (a 23), .ref (a 24), .ref (a 25), .ref (a 26), .ref (a 27), .ref (a 28), .ref (a 29), .ref (a 30), .int v722]) := by rw [hw747]; exact set_eq k743
                      have k752 : w746[5]? = some (iA E (a 5) 260 fs704) := by rw [hw747]; exact set_ne k744 (by decide)
                      have kp753 := keeps_set kp745 hw747 (by first | exact rfl | decide | omega | (dsimp only; omega))
                      refine x_aload_n C dX12_readsCondition_136 rfl 0 rfl rfl ?_
                      refine x_get C (ci := 11) (k := 11) 0 k751 rfl in_X12 (by decide) w_1129 rfl dX12_readsCondition_137 rfl ?_
                      refine x_if_ne C (tgt := 145) dX12_readsCondition_140 (by decide) rfl (fun c754 => ?_) (fun c754 => ?_)
                      · skip
                        have nf755 : ¬ wt703 - 1 = 0 := fun q => c754 (congrArg nI q)
                        refine x_aload_n C dX12_readsCondition_145 rfl 0 rfl rfl ?_
                        refine x_vv C (As := []) (rest := []) (m_endsPiece E l a cd hG w746 hW748 tp (py + 1) le cy (wt703 - 1) sm lm ny ⟨v716, v737, v718, v719, v720, v721, v722, n723, n724, ⟨by omega, by omega, by omega, by omega, by omega, by omega, by omega⟩, ⟨by omega, by omega⟩, zb727, k751⟩ fs704 k752 gy k750 W1 hc706.2.2.2.2 cm (CI_pop hc710 hnj) (cOps_hd hc711).2 (bot_pop hc712 (by omega)) (by omega)) mf_X12_endsPiece w_1379 0 k751 rfl rfl rfl (Nat.le_of_ble_eq_true rfl) ⟨(Nat.le_of_ble_eq_true rfl), (Nat.le_of_ble_eq_true rfl)⟩ ⟨(Nat.le_of_ble_eq_true rfl), (Nat.le_of_ble_eq_true rfl)⟩ dX12_readsCondition_146 rfl (fun w758 h756 => ?_)
                        obtain ⟨hW759, kq760, x761⟩ := h756
                        have k762 : w758[4]? = some (bA E (a 4) 260 tf) := keeps_at kq760 k749 (by first | decide | omega | (dsimp only; omega))
                        have k763 : w758[6]? = some (iA E (a 6) 260 gy) := keeps_at kq760 k750 (by first | decide | omega | (dsimp only; omega))
                        have kp764 := keeps_tr kp753 kq760 (fun q hq => by first | omega | (dsimp only at *; omega))
                        obtain ⟨cm765, wt766, fs767, We768, hc769, hc770, hc771, hc772, hc773, hc774, hc775, hc776, hc777⟩ := x761
                        obtain ⟨v778, v779, v780, v781, v782, v783, v784, n785, n786, bo787, bo788, zb789, k790⟩ := hc771
                        refine x_goto C (tgt := 92) dX12_readsCondition_149 (by decide) ?_
                        refine x_lv (lv1 := [(0, .ref (a 0))]) [0] rfl ?_
                        exact ih92 ((py + 1)) cm765 wt766 ny fs767 gy We768 w758 hW759 (by omega) ⟨v778, v779, v780, v781, v782, v783, v784, n785, n786, ⟨by omega, by omega, by omega, by omega, by omega, by omega, by omega⟩, ⟨by omega, by omega⟩, zb789, k790⟩ k762 hc772 k763 hc769 hc773 hc774 hc775 (by omega) (fun k hk => (hc777 k hk).trans ((hc714 k hk).trans (iv92_9 k hk))) kp764
                      · skip
                        have nf791 : wt703 - 1 = 0 := (nI_eq (by omega) (by omega)).mp c754
                        have hw0 : (wt703 - 1) = 0 := by omega
                        have hn0 : W1 = [] := List.eq_nil_of_length_eq_zero (by omega)
                        refine x_iconst C (v := 1) dX12_readsCondition_143 (by decide) rfl ?_
                        exact x_zret C hr hlk rfl dX12_readsCondition_144 ⟨hW748, kp753, (Or.inr rfl), (Or.inr ⟨rfl, (py + 1), cy, _, _, by omega, by omega, ⟨⟨_, hw0 ▸ (show MO a cd w746 tp (py + 1) le cy (wt703 - 1) sm lm ny from ⟨v716, v737, v718, v719, v720, v721, v722, n723, n724, ⟨by omega, by omega, by omega, by omega, by omega, by omega, by omega⟩, ⟨by omega, by omega⟩, zb727, k751⟩)⟩, k752, k750⟩, CI_seg (show CI _ cm cy 1 [] from hn0 ▸ CI_pop hc710 hnj) (by omega), by omega, fun k hk => (hc714 k hk).trans (iv92_9 k hk)⟩)⟩
                refine x_lv (lv1 := [(0, .ref (a 0))]) [0] rfl ?_
                exact loop92 _ pl208 cm209 wt210 nu247 fs211 fw212 We213 w198 hW199 (Nat.lt_succ_self _) ⟨v251, v252, v253, v254, v255, v256, v257, n258, n259, ⟨by omega, by omega, by omega, by omega, by omega, by omega, by omega⟩, ⟨by omega, by omega⟩, zb262, k263⟩ k203 k249 k250 hs216 hs219 hs220 hs221 (by omega) (fun k hk => (hs223 k hk).trans (iv40_9 k hk)) kp204
            · skip
              have hp792 := hv_lt (x194.symm.trans c195) (by decide)
              refine x_aload_n C dX12_readsCondition_58 rfl 0 rfl rfl ?_
              refine x_aload_n C dX12_readsCondition_59 rfl 0 rfl rfl ?_
              refine x_vi C (As := []) (rest := [.ref (a 0)]) (m_here E l a cd hG wl40 hWl40 tp px le cx wx sm lm nz ⟨v79, v80, v81, v82, v83, v84, v85, n86, n87, ⟨by omega, by omega, by omega, by omega, by omega, by omega, by omega⟩, ⟨by omega, by omega⟩, zb90, k91⟩ tf iv40_1) mf_X12_here w_1317 0 k91 rfl rfl rfl (Nat.le_of_ble_eq_true rfl) ⟨(Nat.le_of_ble_eq_true rfl), (Nat.le_of_ble_eq_true rfl)⟩ ⟨(Nat.le_of_ble_eq_true rfl), (Nat.le_of_ble_eq_true rfl)⟩ dX12_readsCondition_60 rfl (fun r794 w795 h793 => ?_)
              obtain ⟨hW796, x797⟩ := h793
              refine x_ws hW796 ?_
              refine x_bipush C (v := 33) dX12_readsCondition_63 (by decide) rfl ?_
              refine x_icmp_ne C (tgt := 73) dX12_readsCondition_65 (by decide) rfl (fun c798 => ?_) (fun c798 => ?_)
              · skip
                refine x_bipush C (v := 13) dX12_readsCondition_73 (by decide) rfl ?_
                refine x_vi C (As := [.int 13]) (rest := []) (m_opens13 E l a cd hG wl40 hWl40 tp px le cx wx sm lm nz ⟨v79, v80, v81, v82, v83, v84, v85, n86, n87, ⟨by omega, by omega, by omega, by omega, by omega, by omega, by omega⟩, ⟨by omega, by omega⟩, zb90, k91⟩ gx iv40_3 (by omega) (by omega)) mf_X12_opens w_1336 0 k91 rfl rfl rfl (Nat.le_of_ble_eq_true rfl) ⟨(Nat.le_of_ble_eq_true rfl), (Nat.le_of_ble_eq_true rfl)⟩ ⟨(Nat.le_of_ble_eq_true rfl), (Nat.le_of_ble_eq_true rfl)⟩ dX12_readsCondition_75 rfl (fun r800 w801 h799 => ?_)
                obtain ⟨hW802, kq803, zb804, x805⟩ := h799
                have k806 : w801[4]? = some (bA E (a 4) 260 tf) := keeps_at kq803 iv40_1 (by first | decide | omega | (dsimp only; omega))
                have k807 : w801[5]? = some (iA E (a 5) 260 fx) := keeps_at kq803 iv40_2 (by first | decide | omega | (dsimp only; omega))
                have kp808 := keeps_tr kq40 kq803 (fun q hq => by first | omega | (dsimp only at *; omega))
                rcases x805 with ⟨e809, mo810, k811⟩ | ⟨e812, mo813, k814⟩
                · refine x_top e809 ?_
                  obtain ⟨v815, v816, v817, v818, v819, v820, v821, n822, n823, bo824, bo825, zb826, k827⟩ := mo810
                  refine x_if_ne C (tgt := 40) dX12_readsCondition_78 (by decide) rfl (fun h => absurd h (by decide)) (fun _ => ?_)
                  refine x_iconst C (v := 0) dX12_readsCondition_81 (by decide) rfl ?_
                  exact x_zret C hr hlk rfl dX12_readsCondition_82 ⟨hW802, kp808, (Or.inl rfl), (Or.inl ⟨rfl, ⟨px, cx, wx, _, _, ⟨⟨_, ⟨v815, v816, v817, v818, v819, v820, v821, n822, n823, ⟨by omega, by omega, by omega, by omega, by omega, by omega, by omega⟩, ⟨by omega, by omega⟩, zb826, k827⟩⟩, k807, k811⟩⟩⟩)⟩
                · refine x_top e812 ?_
                  obtain ⟨v828, v829, v830, v831, v832, v833, v834, n835, n836, bo837, bo838, zb839, k840⟩ := mo813
                  refine x_if_ne C (tgt := 40) dX12_readsCondition_78 (by decide) rfl (fun _ => ?_) (fun h => absurd h (by decide))
                  refine x_lv (lv1 := [(0, .ref (a 0))]) [0] rfl ?_
                  exact ih40 (px + 1) cx (wx + 1) nz fx ((upd gx wx (nI (1048576 * 13 + 0)))) (((13, 0) :: Wx)) w801 hW802 (by omega) ⟨v828, v829, v830, v831, v832, v833, v834, n835, n836, ⟨by omega, by omega, by omega, by omega, by omega, by omega, by omega⟩, ⟨by omega, by omega⟩, zb839, k840⟩ k806 k807 k814 (wR_push (op := 13) (pay := 0) iv40_4 (by omega) (by omega)) (CI_push (e := (13, 0)) iv40_5 (nJ ⟨by decide, by decide⟩)) (cOps_cons (e := (13, 0)) ⟨by decide, by decide⟩ iv40_6) (bot_push iv40_7) (by rw [wgt_hd0 (e := (13, 0)) (by decide)]; omega) iv40_9 kp808
              · skip
                have hp841 := hv_lt (x797.symm.trans c798) (by decide)
                refine x_bipush C (v := 10) dX12_readsCondition_68 (by decide) rfl ?_
                refine x_goto C (tgt := 75) dX12_readsCondition_70 (by decide) ?_
                refine x_vi C (As := [.int 10]) (rest := []) (m_opens10 E l a cd hG wl40 hWl40 tp px le cx wx sm lm nz ⟨v79, v80, v81, v82, v83, v84, v85, n86, n87, ⟨by omega, by omega, by omega, by omega, by omega, by omega, by omega⟩, ⟨by omega, by omega⟩, zb90, k91⟩ gx iv40_3 (by omega) (by omega)) mf_X12_opens w_1336 0 k91 rfl rfl rfl (Nat.le_of_ble_eq_true rfl) ⟨(Nat.le_of_ble_eq_true rfl), (Nat.le_of_ble_eq_true rfl)⟩ ⟨(Nat.le_of_ble_eq_true rfl), (Nat.le_of_ble_eq_true rfl)⟩ dX12_readsCondition_75 rfl (fun r843 w844 h842 => ?_)
                obtain ⟨hW845, kq846, zb847, x848⟩ := h842
                have k849 : w844[4]? = some (bA E (a 4) 260 tf) := keeps_at kq846 iv40_1 (by first | decide | omega | (dsimp only; omega))
                have k850 : w844[5]? = some (iA E (a 5) 260 fx) := keeps_at kq846 iv40_2 (by first | decide | omega | (dsimp only; omega))
                have kp851 := keeps_tr kq40 kq846 (fun q hq => by first | omega | (dsimp only at *; omega))
                rcases x848 with ⟨e852, mo853, k854⟩ | ⟨e855, mo856, k857⟩
                · refine x_top e852 ?_
                  obtain ⟨v858, v859, v860, v861, v862, v863, v864, n865, n866, bo867, bo868, zb869, k870⟩ := mo853
                  refine x_if_ne C (tgt := 40) dX12_readsCondition_78 (by decide) rfl (fun h => absurd h (by decide)) (fun _ => ?_)
                  refine x_iconst C (v := 0) dX12_readsCondition_81 (by decide) rfl ?_
                  exact x_zret C hr hlk rfl dX12_readsCondition_82 ⟨hW845, kp851, (Or.inl rfl), (Or.inl ⟨rfl, ⟨px, cx, wx, _, _, ⟨⟨_, ⟨v858, v859, v860, v861, v862, v863, v864, n865, n866, ⟨by omega, by omega, by omega, by omega, by omega, by omega, by omega⟩, ⟨by omega, by omega⟩, zb869, k870⟩⟩, k850, k854⟩⟩⟩)⟩
                · refine x_top e855 ?_
                  obtain ⟨v871, v872, v873, v874, v875, v876, v877, n878, n879, bo880, bo881, zb882, k883⟩ := mo856
                  refine x_if_ne C (tgt := 40) dX12_readsCondition_78 (by decide) rfl (fun _ => ?_) (fun h => absurd h (by decide))
                  refine x_lv (lv1 := [(0, .ref (a 0))]) [0] rfl ?_
                  exact ih40 (px + 1) cx (wx + 1) nz fx ((upd gx wx (nI (1048576 * 10 + 0)))) (((10, 0) :: Wx)) w844 hW845 (by omega) ⟨v871, v872, v873, v874, v875, v876, v877, n878, n879, ⟨by omega, by omega, by omega, by omega, by omega, by omega, by omega⟩, ⟨by omega, by omega⟩, zb882, k883⟩ k849 k850 k857 (wR_push (op := 10) (pay := 0) iv40_4 (by omega) (by omega)) (CI_push (e := (10, 0)) iv40_5 (nJ ⟨by decide, by decide⟩)) (cOps_cons (e := (10, 0)) ⟨by decide, by decide⟩ iv40_6) (bot_push iv40_7) (by rw [wgt_hd1 (e := (10, 0)) (by decide)]; omega) iv40_9 kp851
      refine x_lv (lv1 := [(0, .ref (a 0))]) [0] rfl ?_
      exact loop40 _ (pl + 1) cm (0 + 1) nu fs ((upd fw 0 (nI (1048576 * 13 + 0)))) (((13, 0) :: [])) w39 hW40 (Nat.lt_succ_self _) ⟨v66, v67, v68, v69, v70, v71, v72, n73, n74, ⟨by omega, by omega, by omega, by omega, by omega, by omega, by omega⟩, ⟨by omega, by omega⟩, zb77, k78⟩ k44 k45 k52 (wR_push (op := 13) (pay := 0) (show wR fw [] 0 from rfl) (by omega) (by omega)) (CI_push (e := (13, 0)) (CI_start fs cm) (nJ ⟨by decide, by decide⟩)) cOps_one bot_one (by rw [wgt_hd0 (e := (13, 0)) (by decide)]; rw [wgt_0]; omega) (fun _ _ => rfl) kp46
  · skip
    refine x_aload_n C dX12_readsCondition_9 rfl 0 rfl rfl ?_
    refine x_iconst C (v := 1) dX12_readsCondition_10 (by decide) rfl ?_
    refine x_aload_n C dX12_readsCondition_11 rfl 0 rfl rfl ?_
    refine x_get C (ci := 11) (k := 5) 0 k13 rfl in_X12 (by decide) w_1123 rfl dX12_readsCondition_12 rfl ?_
    refine x_vi C (As := [.int 1, .int (nI pl)]) (rest := []) (m_wrongAt E l a cd hG ws hW (1 : Int32) ((nI pl)) tp pl le cm wt sm lm nu ⟨v1, v2, v3, v4, v5, v6, v7, n8, n9, ⟨by omega, by omega, by omega, by omega, by omega, by omega, by omega⟩, ⟨by omega, by omega⟩, zb12, k13⟩) mf_X12_wrongAt w_1324 0 k13 rfl rfl rfl (Nat.le_of_ble_eq_true rfl) ⟨(Nat.le_of_ble_eq_true rfl), (Nat.le_of_ble_eq_true rfl)⟩ ⟨(Nat.le_of_ble_eq_true rfl), (Nat.le_of_ble_eq_true rfl)⟩ dX12_readsCondition_15 rfl (fun r885 w886 h884 => ?_)
    obtain ⟨hW887, kq888, e889, x890⟩ := h884
    refine x_top e889 ?_
    have k891 : w886[4]? = some (bA E (a 4) 260 tf) := keeps_at kq888 htf (by first | decide | omega | (dsimp only; omega))
    have k892 : w886[5]? = some (iA E (a 5) 260 fs) := keeps_at kq888 hfs (by first | decide | omega | (dsimp only; omega))
    have k893 : w886[6]? = some (iA E (a 6) 260 fw) := keeps_at kq888 hfw (by first | decide | omega | (dsimp only; omega))
    have kp894 := keeps_tr kp0 kq888 (fun q hq => by first | omega | (dsimp only at *; omega))
    obtain ⟨v895, v896, v897, v898, v899, v900, v901, n902, n903, bo904, bo905, zb906, k907⟩ := x890
    exact x_zret C hr hlk rfl dX12_readsCondition_18 ⟨hW887, kp894, (Or.inl rfl), (Or.inl ⟨rfl, ⟨pl, cm, wt, _, _, ⟨⟨_, ⟨v895, v896, v897, v898, v899, v900, v901, n902, n903, ⟨by omega, by omega, by omega, by omega, by omega, by omega, by omega⟩, ⟨by omega, by omega⟩, zb906, k907⟩⟩, k892, k893⟩⟩⟩)⟩
