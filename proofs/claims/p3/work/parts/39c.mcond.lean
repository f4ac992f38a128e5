theorem wgt_0 : wgt [] = 0 := rfl
theorem wgt_hd1 {e : Nat × Nat} {W : WL} (h : (2 ≤ e.1 ∧ e.1 ≤ 6) ∨ e.1 = 10) : wgt (e :: W) = 1 + wgt W := by show wg1 e.1 + wgt W = _; rw [wg1_1 h]
theorem wgt_hd0 {e : Nat × Nat} {W : WL} (h : ¬ ((2 ≤ e.1 ∧ e.1 ≤ 6) ∨ e.1 = 10)) : wgt (e :: W) = wgt W := by show wg1 e.1 + wgt W = _; rw [wg1_0 h]; omega
theorem bot_nil (h : bot []) : False := absurd (bot_ne h) (by decide)
theorem bot_one : bot [(13, 0)] := ⟨[], rfl⟩
theorem cOps_one : cOps [(13, 0)] := cOps_cons (e := (13, 0)) ⟨by decide, by decide⟩ (fun _ h => absurd h List.not_mem_nil)
/-- the clauses read so far -/
def KL (fs f8 f9 f10 : Nat → Int32) (sm cm : Nat) : Prop := ∀ q, q < sm → ∃ fr half to : Nat, f8 q = nI fr ∧ f9 q = nI half ∧ f10 q = nI to ∧ to ≤ cm ∧ cSeg fs fr half ∧ cSeg fs half to
theorem KL_step {fs fs2 f8 f9 f10 : Nat → Int32} {sm cm half to : Nat} (h : KL fs f8 f9 f10 sm cm) (hag : ∀ k, k < cm → fs2 k = fs k) (h1 : cSeg fs2 cm half) (h2 : cSeg fs2 half to) : KL fs2 (upd f8 sm (nI cm)) (upd f9 sm (nI half)) (upd f10 sm (nI to)) (sm + 1) to := by
  have l1 := cSeg_lt h1
  have l2 := cSeg_lt h2
  intro q hq
  by_cases e : q = sm
  · subst e
    exact ⟨cm, half, to, pk_us, pk_us, pk_us, Nat.le_refl _, h1, h2⟩
  · obtain ⟨a, b, c, e1, e2, e3, e4, s1, s2⟩ := h q (by omega)
    have l3 := cSeg_lt s1
    have l4 := cSeg_lt s2
    refine ⟨a, b, c, by rw [pk_un e]; exact e1, by rw [pk_un e]; exact e2, by rw [pk_un e]; exact e3, by omega, cSeg_congr s1 (fun k hk => hag k (by omega)), cSeg_congr s2 (fun k hk => hag k (by omega))⟩
theorem dX12_endsPiece_0 : decode cX12_endsPiece 0 = .ok (.aload_n 0, 1) := by decide +kernel
theorem dX12_endsPiece_1 : decode cX12_endsPiece 1 = .ok (.invokevirtual 164, 3) := by decide +kernel
theorem dX12_endsPiece_4 : decode cX12_endsPiece 4 = .ok (.bipush 10, 2) := by decide +kernel
theorem dX12_endsPiece_6 : decode cX12_endsPiece 6 = .ok (.if_icmp .ne 33, 3) := by decide +kernel
theorem dX12_endsPiece_9 : decode cX12_endsPiece 9 = .ok (.aload_n 0, 1) := by decide +kernel
theorem dX12_endsPiece_10 : decode cX12_endsPiece 10 = .ok (.bipush 10, 2) := by decide +kernel
theorem dX12_endsPiece_12 : decode cX12_endsPiece 12 = .ok (.iconst 0, 1) := by decide +kernel
theorem dX12_endsPiece_13 : decode cX12_endsPiece 13 = .ok (.invokevirtual 167, 3) := by decide +kernel
theorem dX12_endsPiece_16 : decode cX12_endsPiece 16 = .ok (.aload_n 0, 1) := by decide +kernel
theorem dX12_endsPiece_17 : decode cX12_endsPiece 17 = .ok (.aload_n 0, 1) := by decide +kernel
theorem dX12_endsPiece_18 : decode cX12_endsPiece 18 = .ok (.getfield 161, 3) := by decide +kernel
theorem dX12_endsPiece_21 : decode cX12_endsPiece 21 = .ok (.iconst 1, 1) := by decide +kernel
theorem dX12_endsPiece_22 : decode cX12_endsPiece 22 = .ok (.isub, 1) := by decide +kernel
theorem dX12_endsPiece_23 : decode cX12_endsPiece 23 = .ok (.putfield 161, 3) := by decide +kernel
theorem dX12_endsPiece_26 : decode cX12_endsPiece 26 = .ok (.aload_n 0, 1) := by decide +kernel
theorem dX12_endsPiece_27 : decode cX12_endsPiece 27 = .ok (.aload_n 0, 1) := by decide +kernel
theorem dX12_endsPiece_28 : decode cX12_endsPiece 28 = .ok (.getfield 158, 3) := by decide +kernel
theorem dX12_endsPiece_31 : decode cX12_endsPiece 31 = .ok (.iconst 1, 1) := by decide +kernel
theorem dX12_endsPiece_32 : decode cX12_endsPiece 32 = .ok (.isub, 1) := by decide +kernel
theorem dX12_endsPiece_33 : decode cX12_endsPiece 33 = .ok (.putfield 158, 3) := by decide +kernel
theorem dX12_endsPiece_36 : decode cX12_endsPiece 36 = .ok (.goto (-36), 3) := by decide +kernel
theorem dX12_endsPiece_39 : decode cX12_endsPiece 39 = .ok (.return_, 1) := by decide +kernel
set_option maxRecDepth 20000 in
set_option maxHeartbeats 4000000 in
theorem m_endsPiece (E : xE) (l : Launch) (a : Nat → Nat) (cd : Cd) (hG : Good cd) (kf : Int32) (jn js jq : Lb) (ws : va_W) (hW : WX (okM E a cd kf jn js jq) ws) (tp pl le cm wt sm lm : Nat) (nu : Int32) (h0 : MO a cd kf ws tp pl le cm wt sm lm nu) (fs : Nat → Int32) (hfs : ws[5]? = some (iA E (a 5) 260 fs)) (fw : Nat → Int32) (hfw : ws[6]? = some (iA E (a 6) 260 fw)) (W : WL) (hwr : wR fw W wt) (c0 : Nat) (hci : CI fs c0 cm 1 W) (hco : cOps W) (hbo : bot W) (hphi : cm + wgt W ≤ 240) : xV E l yX12_endsPiece cX12_endsPiece 1 1 0 0 [.ref (a 0)] ws (fun w => WX (okM E a cd kf jn js jq) w ∧ keeps ws w (fun q => q = 0 ∨ q = 5) ∧ (∃ (cm2 wt2 : Nat) (fs2 : Nat → Int32) (We : WL), wR fw We wt2 ∧ wt2 ≤ wt ∧ MO a cd kf w tp pl le cm2 wt2 sm lm nu ∧ w[5]? = some (iA E (a 5) 260 fs2) ∧ CI fs2 c0 cm2 1 We ∧ cOps We ∧ bot We ∧ cm2 + wgt We = cm + wgt W ∧ ∀ k, k < c0 → fs2 k = fs k)) := by
  refine xV_start (lv := [(0, .ref (a 0))]) RX12 (by decide) rfl (Nat.le_of_ble_eq_true rfl) rfl (fun p e s m below meth c A C hr hlk hin => ?_)
  have kp0 : keeps ws ws (fun q => q = 0 ∨ q = 5) := keeps_rf
  obtain ⟨v1, v2, v3, v4, v5, v6, n7, n8, bo9, bo10, k11⟩ := h0
  have loop0 : ∀ (fu0 : Nat) (cx : Nat) (wx : Nat) (fx : Nat → Int32) (Wx : WL) (wl0 : va_W), WX (okM E a cd kf jn js jq) wl0 → Wx.length < fu0 → MO a cd kf wl0 tp pl le cx wx sm lm nu → wl0[5]? = some (iA E (a 5) 260 fx) → wl0[6]? = some (iA E (a 6) 260 fw) → wR fw Wx wx → CI fx c0 cx 1 Wx → cOps Wx → bot Wx → cx + wgt Wx = cm + wgt W ∧ wx ≤ wt → (∀ k, k < c0 → fx k = fs k) → keeps ws wl0 (fun q => q = 0 ∨ q = 5) → X E p l e (xRm 1 0 0) s m ([.ref (a 0)] : List Value).toArray below meth c A 1 0 0 (MQ below (va_Qv (fun w => WX (okM E a cd kf jn js jq) w ∧ keeps ws w (fun q => q = 0 ∨ q = 5) ∧ (∃ (cm2 wt2 : Nat) (fs2 : Nat → Int32) (We : WL), wR fw We wt2 ∧ wt2 ≤ wt ∧ MO a cd kf w tp pl le cm2 wt2 sm lm nu ∧ w[5]? = some (iA E (a 5) 260 fs2) ∧ CI fs2 c0 cm2 1 We ∧ cOps We ∧ bot We ∧ cm2 + wgt We = cm + wgt W ∧ ∀ k, k < c0 → fs2 k = fs k)) (xB E A) A) ([.ref (a 0)] : List Value).toArray s 0 0 A) wl0 0 [(0, .ref (a 0))] [] := by
    intro fu0
    induction fu0 with
    | zero => intro cx wx fx Wx wl0 _ q; omega
    | succ fu0 ih0 =>
      intro cx wx fx Wx wl0 hWl0 me0 iv0_0 iv0_1 iv0_2 iv0_3 iv0_4 iv0_5 iv0_6 iv0_7 iv0_8 kq0
      obtain ⟨v12, v13, v14, v15, v16, v17, n18, n19, bo20, bo21, k22⟩ := iv0_0
      refine x_aload_n C dX12_endsPiece_0 rfl 0 rfl rfl ?_
      rcases Wx with _ | ⟨e, W1⟩
      · exact (bot_nil iv0_6).elim
      have hs1 := (cOps_hd iv0_5).1
      have hw1 := iv0_3.1
      have hl1 : (e :: W1).length = W1.length + 1 := rfl
      refine x_vi C (As := []) (rest := []) (m_waitTop E l a cd hG kf jn js jq wl0 hWl0 tp pl le cx wx sm lm nu ⟨v12, v13, v14, v15, v16, v17, n18, n19, ⟨by omega, by omega, by omega, by omega, by omega, by omega, by omega⟩, ⟨by omega, by omega⟩, k22⟩ fw iv0_2 (e :: W1) iv0_3) mf_X12_waitTop w_1363 0 k22 rfl rfl rfl (Nat.le_of_ble_eq_true rfl) ⟨(Nat.le_of_ble_eq_true rfl), (Nat.le_of_ble_eq_true rfl)⟩ ⟨(Nat.le_of_ble_eq_true rfl), (Nat.le_of_ble_eq_true rfl)⟩ dX12_endsPiece_1 rfl (fun r24 w25 h23 => ?_)
      obtain ⟨hW26, x27⟩ := h23
      refine x_ws hW26 ?_
      refine x_top (x27.trans (show wtop (e :: W1) = (nI (e.1)) from rfl)) ?_
      refine x_bipush C (v := 10) dX12_endsPiece_4 (by decide) rfl ?_
      refine x_icmp_ne C (tgt := 39) dX12_endsPiece_6 (by decide) rfl (fun c28 => ?_) (fun c28 => ?_)
      · skip
        have nf29 : ¬ e.1 = 10 := fun q => c28 (congrArg nI q)
        exact x_vret C hr hlk dX12_endsPiece_39 ⟨hWl0, kq0, ⟨cx, wx, fx, (e :: W1), iv0_3, by omega, ⟨v12, v13, v14, v15, v16, v17, n18, n19, ⟨by omega, by omega, by omega, by omega, by omega, by omega, by omega⟩, ⟨by omega, by omega⟩, k22⟩, iv0_1, iv0_4, iv0_5, iv0_6, by omega, iv0_8⟩⟩
      · skip
        have nf30 : e.1 = 10 := (nI_eq (by omega) (by omega)).mp c28
        have hwg := wgt_hd1 (e := e) (W := W1) (Or.inr (by omega))
        have hcx := CI_le iv0_4
        refine x_aload_n C dX12_endsPiece_9 rfl 0 rfl rfl ?_
        refine x_bipush C (v := 10) dX12_endsPiece_10 (by decide) rfl ?_
        refine x_iconst C (v := 0) dX12_endsPiece_12 (by decide) rfl ?_
        refine x_vv C (As := [.int 10, .int 0]) (rest := []) (m_notes E l a cd hG kf jn js jq wl0 hWl0 10 0 (by omega) (by omega) tp pl le cx wx sm lm nu ⟨v12, v13, v14, v15, v16, v17, n18, n19, ⟨by omega, by omega, by omega, by omega, by omega, by omega, by omega⟩, ⟨by omega, by omega⟩, k22⟩ fx iv0_1 (by omega)) mf_X12_notes w_1349 0 k22 rfl rfl rfl (Nat.le_of_ble_eq_true rfl) ⟨(Nat.le_of_ble_eq_true rfl), (Nat.le_of_ble_eq_true rfl)⟩ ⟨(Nat.le_of_ble_eq_true rfl), (Nat.le_of_ble_eq_true rfl)⟩ dX12_endsPiece_13 rfl (fun w33 h31 => ?_)
        obtain ⟨hW34, kq35, x36⟩ := h31
        have k37 : w33[6]? = some (iA E (a 6) 260 fw) := keeps_at kq35 iv0_2 (by first | decide | omega | (dsimp only; omega))
        have kp38 := keeps_tr kq0 kq35 (fun q hq => by first | omega | (dsimp only at *; omega))
        obtain ⟨mo39, k40⟩ := x36
        obtain ⟨v41, v42, v43, v44, v45, v46, n47, n48, bo49, bo50, k51⟩ := mo39
        refine x_aload_n C dX12_endsPiece_16 rfl 0 rfl rfl ?_
        refine x_aload_n C dX12_endsPiece_17 rfl 0 rfl rfl ?_
        refine x_get C (ci := 11) (k := 11) 0 k51 rfl in_X12 (by decide) w_1129 rfl dX12_endsPiece_18 rfl ?_
        refine x_iconst C (v := 1) dX12_endsPiece_21 (by decide) rfl ?_
        refine x_isub C (v := (nI (wx - 1))) dX12_endsPiece_22 (pk_sub (a := wx) (b := 1) (by omega)) rfl ?_
        obtain ⟨w52, hw53⟩ : ∃ w : va_W, w = List.set w33 0 (ob (a 0) 11 [.ref (a 1), .ref (a 2), .ref (a 3), .ref (a 4), .int (nI tp), .int (nI pl), .int (nI le), .int v41, .int nu, .int v42, .int (nI (cx + 1)), .int (nI (wx - 1)), .int (nI sm), .int (nI (cd.2.2.2.2.2)), .ref (a 5), .ref (a 6), .ref (a 7), .ref (a 8), .ref (a 9), .ref (a 10), .ref (a 11), .ref (a 12), .ref (a 13), .ref (a 14), .ref (a 15), .ref (a 16), .ref (a 17), .int (nI lm), .ref (a 18), .ref (a 19), .ref (a 20), .ref (a 21), .int v43, .int v44, .int v45, .int v46, .int (nI n47), .int (nI n48), .ref (a 22), .ref (a 23), .ref (a 24), .ref (a 25), .ref (a 26), .ref (a 27), .ref (a 28), .ref (a 29), .ref (a 30), .int kf]) := ⟨_, rfl⟩
        refine x_put C (ci := 11) (k := 11) (ty := .int) 0 k51 rfl in_X12 tyX12 tyX12_ok nmX12 (by decide) w_1129 rfl rfl rfl rfl (Nat.le_of_ble_eq_true rfl) hw53.symm dX12_endsPiece_23 rfl ?_
        have hW54 : WX (okM E a cd kf jn js jq) w52 := by rw [hw53]; exact hW34.set (k := 0) rfl ⟨tp, pl, le, v41, nu, v42, (cx + 1), (wx - 1), sm, lm, v43, v44, v45, v46, n47, n48, by omega, by omega, by omega, by omega, by omega, by omega, by omega, by omega, by omega, rfl⟩
        have k55 : w52[6]? = some (iA E (a 6) 260 fw) := by rw [hw53]; exact set_ne k37 (by decide)
        have k56 : w52[0]? = some (ob (a 0) 11 [.ref (a 1), .ref (a 2), .ref (a 3), .ref (a 4), .int (nI tp), .int (nI pl), .int (nI le), .int v41, .int nu, .int v42, .int (nI (cx + 1)), .int (nI (wx - 1)), .int (nI sm), .int (nI (cd.2.2.2.2.2)), .ref (a 5), .ref (a 6), .ref (a 7), .ref (a 8), .ref (a 9), .ref (a 10), .ref (a 11), .ref (a 12), .ref (a 13), .ref (a 14), .ref (a 15), .ref (a 16), .ref (a 17), .int (nI lm), .ref (a 18), .ref (a 19), .ref (a 20), .ref (a 21), .int v43, .int v44, .int v45, .int v46, .int (nI n47), .int (nI n48), .ref (a 22), .ref (a 23), .ref (a 24), .ref (a 25), .ref (a 26), .ref (a 27), .ref (a 28), .ref (a 29), .ref (a 30), .int kf]) := by rw [hw53]; exact set_eq k51
        have k57 : w52[5]? = some (iA E (a 5) 260 (upd fx cx (nI (1048576 * 10 + 0)))) := by rw [hw53]; exact set_ne k40 (by decide)
        have kp58 := keeps_set kp38 hw53 (by first | exact rfl | decide | omega | (dsimp only; omega))
        refine x_aload_n C dX12_endsPiece_26 rfl 0 rfl rfl ?_
        refine x_aload_n C dX12_endsPiece_27 rfl 0 rfl rfl ?_
        refine x_get C (ci := 11) (k := 9) 0 k56 rfl in_X12 (by decide) w_1127 rfl dX12_endsPiece_28 rfl ?_
        refine x_iconst C (v := 1) dX12_endsPiece_31 (by decide) rfl ?_
        refine x_isub C (v := (v42 - (1 : Int32))) dX12_endsPiece_32 rfl rfl ?_
        refine x_any (fun v59 => ?_)
        obtain ⟨w60, hw61⟩ : ∃ w : va_W, w = List.set w52 0 (ob (a 0) 11 [.ref (a 1), .ref (a 2), .ref (a 3), .ref (a 4), .int (nI tp), .int (nI pl), .int (nI le), .int v41, .int nu, .int v59, .int (nI (cx + 1)), .int (nI (wx - 1)), .int (nI sm), .int (nI (cd.2.2.2.2.2)), .ref (a 5), .ref (a 6), .ref (a 7), .ref (a 8), .ref (a 9), .ref (a 10), .ref (a 11), .ref (a 12), .ref (a 13), .ref (a 14), .ref (a 15), .ref (a 16), .ref (a 17), .int (nI lm), .ref (a 18), .ref (a 19), .ref (a 20), .ref (a 21), .int v43, .int v44, .int v45, .int v46, .int (nI n47), .int (nI n48), .ref (a 22), .ref (a 23), .ref (a 24), .ref (a 25), .ref (a 26), .ref (a 27), .ref (a 28), .ref (a 29), .ref (a 30), .int kf]) := ⟨_, rfl⟩
        refine x_put C (ci := 11) (k := 9) (ty := .int) 0 k56 rfl in_X12 tyX12 tyX12_ok nmX12 (by decide) w_1127 rfl rfl rfl rfl (Nat.le_of_ble_eq_true rfl) hw61.symm dX12_endsPiece_33 rfl ?_
        have hW62 : WX (okM E a cd kf jn js jq) w60 := by rw [hw61]; exact hW54.set (k := 0) rfl ⟨tp, pl, le, v41, nu, v59, (cx + 1), (wx - 1), sm, lm, v43, v44, v45, v46, n47, n48, by omega, by omega, by omega, by omega, by omega, by omega, by omega, by omega, by omega, rfl⟩
        have k63 : w60[6]? = some (iA E (a 6) 260 fw) := by rw [hw61]; exact set_ne k55 (by decide)
        have k64 : w60[0]? = some (ob (a 0) 11 [.ref (a 1), .ref (a 2), .ref (a 3), .ref (a 4), .int (nI tp), .int (nI pl), .int (nI le), .int v41, .int nu, .int v59, .int (nI (cx + 1)), .int (nI (wx - 1)), .int (nI sm), .int (nI (cd.2.2.2.2.2)), .ref (a 5), .ref (a 6), .ref (a 7), .ref (a 8), .ref (a 9), .ref (a 10), .ref (a 11), .ref (a 12), .ref (a 13), .ref (a 14), .ref (a 15), .ref (a 16), .ref (a 17), .int (nI lm), .ref (a 18), .ref (a 19), .ref (a 20), .ref (a 21), .int v43, .int v44, .int v45, .int v46, .int (nI n47), .int (nI n48), .ref (a 22), .ref (a 23), .ref (a 24), .ref (a 25), .ref (a 26), .ref (a 27), .ref (a 28), .ref (a 29), .ref (a 30), .int kf]) := by rw [hw61]; exact set_eq k56
        have k65 : w60[5]? = some (iA E (a 5) 260 (upd fx cx (nI (1048576 * 10 + 0)))) := by rw [hw61]; exact set_ne k57 (by decide)
        have kp66 := keeps_set kp58 hw61 (by first | exact rfl | decide | omega | (dsimp only; omega))
        refine x_goto C (tgt := 0) dX12_endsPiece_36 (by decide) ?_
        refine x_lv (lv1 := [(0, .ref (a 0))]) [0] rfl ?_
        exact ih0 (cx + 1) (wx - 1) ((upd fx cx (nI (1048576 * 10 + 0)))) W1 w60 hW62 (by omega) ⟨v41, v59, v43, v44, v45, v46, n47, n48, ⟨by omega, by omega, by omega, by omega, by omega, by omega, by omega⟩, ⟨by omega, by omega⟩, k64⟩ k65 k63 iv0_3.2.2.2.2 (CI_pop (e := e) (CI_note (op := 10) (v := 0) (h' := 1) iv0_4 (by omega) (by omega) (by omega) (Or.inr (Or.inr (Or.inl ⟨rfl, Nat.le_refl _, rfl⟩)))) (nJ ⟨by omega, by omega⟩)) (cOps_hd iv0_5).2 (bot_hd iv0_6 (by omega)) (by omega) (ag_upd iv0_8 (by omega)) kp66
  refine x_lv (lv1 := [(0, .ref (a 0))]) [0] rfl ?_
  exact loop0 _ cm wt fs W ws hW (Nat.lt_succ_self _) ⟨v1, v2, v3, v4, v5, v6, n7, n8, ⟨by omega, by omega, by omega, by omega, by omega, by omega, by omega⟩, ⟨by omega, by omega⟩, k11⟩ hfs hfw hwr hci hco hbo ⟨rfl, Nat.le_refl _⟩ (fun _ _ => rfl) kp0
theorem dX12_lands_0 : decode cX12_lands 0 = .ok (.aload_n 0, 1) := by decide +kernel
theorem dX12_lands_1 : decode cX12_lands 1 = .ok (.invokevirtual 164, 3) := by decide +kernel
theorem dX12_lands_4 : decode cX12_lands 4 = .ok (.bipush 11, 2) := by decide +kernel
theorem dX12_lands_6 : decode cX12_lands 6 = .ok (.if_icmp .eq 16, 3) := by decide +kernel
theorem dX12_lands_9 : decode cX12_lands 9 = .ok (.iload_n 1, 1) := by decide +kernel
theorem dX12_lands_10 : decode cX12_lands 10 = .ok (.ifCond .eq 63, 3) := by decide +kernel
theorem dX12_lands_22 : decode cX12_lands 22 = .ok (.aload_n 0, 1) := by decide +kernel
theorem dX12_lands_23 : decode cX12_lands 23 = .ok (.getfield 26, 3) := by decide +kernel
theorem dX12_lands_26 : decode cX12_lands 26 = .ok (.aload_n 0, 1) := by decide +kernel
theorem dX12_lands_27 : decode cX12_lands 27 = .ok (.getfield 161, 3) := by decide +kernel
theorem dX12_lands_30 : decode cX12_lands 30 = .ok (.iconst 1, 1) := by decide +kernel
theorem dX12_lands_31 : decode cX12_lands 31 = .ok (.isub, 1) := by decide +kernel
theorem dX12_lands_32 : decode cX12_lands 32 = .ok (.iaload, 1) := by decide +kernel
theorem dX12_lands_33 : decode cX12_lands 33 = .ok (.ldc 157, 2) := by decide +kernel
theorem dX12_lands_35 : decode cX12_lands 35 = .ok (.irem, 1) := by decide +kernel
theorem dX12_lands_36 : decode cX12_lands 36 = .ok (.istore_n 2, 1) := by decide +kernel
theorem dX12_lands_37 : decode cX12_lands 37 = .ok (.aload_n 0, 1) := by decide +kernel
theorem dX12_lands_38 : decode cX12_lands 38 = .ok (.getfield 23, 3) := by decide +kernel
theorem dX12_lands_41 : decode cX12_lands 41 = .ok (.iload_n 2, 1) := by decide +kernel
theorem dX12_lands_42 : decode cX12_lands 42 = .ok (.ldc 157, 2) := by decide +kernel
theorem dX12_lands_44 : decode cX12_lands 44 = .ok (.aload_n 0, 1) := by decide +kernel
theorem dX12_lands_45 : decode cX12_lands 45 = .ok (.getfield 23, 3) := by decide +kernel
theorem dX12_lands_48 : decode cX12_lands 48 = .ok (.iload_n 2, 1) := by decide +kernel
theorem dX12_lands_49 : decode cX12_lands 49 = .ok (.iaload, 1) := by decide +kernel
theorem dX12_lands_50 : decode cX12_lands 50 = .ok (.ldc 157, 2) := by decide +kernel
theorem dX12_lands_52 : decode cX12_lands 52 = .ok (.idiv, 1) := by decide +kernel
theorem dX12_lands_53 : decode cX12_lands 53 = .ok (.imul, 1) := by decide +kernel
theorem dX12_lands_54 : decode cX12_lands 54 = .ok (.aload_n 0, 1) := by decide +kernel
theorem dX12_lands_55 : decode cX12_lands 55 = .ok (.getfield 154, 3) := by decide +kernel
theorem dX12_lands_58 : decode cX12_lands 58 = .ok (.iadd, 1) := by decide +kernel
theorem dX12_lands_59 : decode cX12_lands 59 = .ok (.iastore, 1) := by decide +kernel
theorem dX12_lands_60 : decode cX12_lands 60 = .ok (.aload_n 0, 1) := by decide +kernel
theorem dX12_lands_61 : decode cX12_lands 61 = .ok (.aload_n 0, 1) := by decide +kernel
theorem dX12_lands_62 : decode cX12_lands 62 = .ok (.getfield 161, 3) := by decide +kernel
theorem dX12_lands_65 : decode cX12_lands 65 = .ok (.iconst 1, 1) := by decide +kernel
theorem dX12_lands_66 : decode cX12_lands 66 = .ok (.isub, 1) := by decide +kernel
theorem dX12_lands_67 : decode cX12_lands 67 = .ok (.putfield 161, 3) := by decide +kernel
theorem dX12_lands_70 : decode cX12_lands 70 = .ok (.goto (-70), 3) := by decide +kernel
theorem dX12_lands_73 : decode cX12_lands 73 = .ok (.return_, 1) := by decide +kernel
set_option maxRecDepth 20000 in
set_option maxHeartbeats 4000000 in
theorem m_lands0 (E : xE) (l : Launch) (a : Nat → Nat) (cd : Cd) (hG : Good cd) (kf : Int32) (jn js jq : Lb) (ws : va_W) (hW : WX (okM E a cd kf jn js jq) ws) (tp pl le cm wt sm lm : Nat) (nu : Int32) (h0 : MO a cd kf ws tp pl le cm wt sm lm nu) (fs : Nat → Int32) (hfs : ws[5]? = some (iA E (a 5) 260 fs)) (fw : Nat → Int32) (hfw : ws[6]? = some (iA E (a 6) 260 fw)) (W : WL) (hwr : wR fw W wt) (c0 : Nat) (hci : CI fs c0 cm 1 W) (hco : cOps W) (hbo : bot W) (hphi : cm + wgt W ≤ 240) : xV E l yX12_lands cX12_lands 3 1 0 0 [.ref (a 0), .int 0] ws (fun w => WX (okM E a cd kf jn js jq) w ∧ keeps ws w (fun q => q = 0 ∨ q = 5) ∧ (∃ (wt2 : Nat) (fs2 : Nat → Int32) (We : WL), wR fw We wt2 ∧ wt2 ≤ wt ∧ MO a cd kf w tp pl le cm wt2 sm lm nu ∧ w[5]? = some (iA E (a 5) 260 fs2) ∧ CI fs2 c0 cm 1 We ∧ cOps We ∧ bot We ∧ wgt We = wgt W ∧ (∀ k, k < c0 → fs2 k = fs k))) := by
  refine xV_start (lv := [(0, .ref (a 0)), (1, .int 0)]) RX12 (by decide) rfl (Nat.le_of_ble_eq_true rfl) rfl (fun p e s m below meth c A C hr hlk hin => ?_)
  have kp0 : keeps ws ws (fun q => q = 0 ∨ q = 5) := keeps_rf
  obtain ⟨v1, v2, v3, v4, v5, v6, n7, n8, bo9, bo10, k11⟩ := h0
  have loop0 : ∀ (fu0 : Nat) (wx : Nat) (fx : Nat → Int32) (Wx : WL) (wl0 : va_W), WX (okM E a cd kf jn js jq) wl0 → Wx.length < fu0 → MO a cd kf wl0 tp pl le cm wx sm lm nu → wl0[5]? = some (iA E (a 5) 260 fx) → wl0[6]? = some (iA E (a 6) 260 fw) → wR fw Wx wx → CI fx c0 cm 1 Wx → cOps Wx → bot Wx → wgt Wx = wgt W ∧ wx ≤ wt → (∀ k, k < c0 → fx k = fs k) → keeps ws wl0 (fun q => q = 0 ∨ q = 5) → X E p l e (xRm 1 0 0) s m ([.ref (a 0), .int 0] : List Value).toArray below meth c A 3 0 0 (MQ below (va_Qv (fun w => WX (okM E a cd kf jn js jq) w ∧ keeps ws w (fun q => q = 0 ∨ q = 5) ∧ (∃ (wt2 : Nat) (fs2 : Nat → Int32) (We : WL), wR fw We wt2 ∧ wt2 ≤ wt ∧ MO a cd kf w tp pl le cm wt2 sm lm nu ∧ w[5]? = some (iA E (a 5) 260 fs2) ∧ CI fs2 c0 cm 1 We ∧ cOps We ∧ bot We ∧ wgt We = wgt W ∧ (∀ k, k < c0 → fs2 k = fs k))) (xB E A) A) ([.ref (a 0), .int 0] : List Value).toArray s 0 0 A) wl0 0 [(0, .ref (a 0)), (1, .int 0)] [] := by
    intro fu0
    induction fu0 with
    | zero => intro wx fx Wx wl0 _ q; omega
    | succ fu0 ih0 =>
      intro wx fx Wx wl0 hWl0 me0 iv0_0 iv0_1 iv0_2 iv0_3 iv0_4 iv0_5 iv0_6 iv0_7 iv0_8 kq0
      obtain ⟨v12, v13, v14, v15, v16, v17, n18, n19, bo20, bo21, k22⟩ := iv0_0
      refine x_aload_n C dX12_lands_0 rfl 0 rfl rfl ?_
      rcases Wx with _ | ⟨e, W1⟩
      · exact (bot_nil iv0_6).elim
      have hs1 := (cOps_hd iv0_5).1
      have hw1 := iv0_3.1
      have hl1 : (e :: W1).length = W1.length + 1 := rfl
      refine x_vi C (As := []) (rest := []) (m_waitTop E l a cd hG kf jn js jq wl0 hWl0 tp pl le cm wx sm lm nu ⟨v12, v13, v14, v15, v16, v17, n18, n19, ⟨by omega, by omega, by omega, by omega, by omega, by omega, by omega⟩, ⟨by omega, by omega⟩, k22⟩ fw iv0_2 (e :: W1) iv0_3) mf_X12_waitTop w_1363 0 k22 rfl rfl rfl (Nat.le_of_ble_eq_true rfl) ⟨(Nat.le_of_ble_eq_true rfl), (Nat.le_of_ble_eq_true rfl)⟩ ⟨(Nat.le_of_ble_eq_true rfl), (Nat.le_of_ble_eq_true rfl)⟩ dX12_lands_1 rfl (fun r24 w25 h23 => ?_)
      obtain ⟨hW26, x27⟩ := h23
      refine x_ws hW26 ?_
      refine x_top (x27.trans (show wtop (e :: W1) = (nI (e.1)) from rfl)) ?_
      refine x_bipush C (v := 11) dX12_lands_4 (by decide) rfl ?_
      refine x_icmp_eq C (tgt := 22) dX12_lands_6 (by decide) rfl (fun c28 => ?_) (fun c28 => ?_)
      · skip
        have nf29 : e.1 = 11 := (nI_eq (by omega) (by omega)).mp c28
        have hJ : isJ e := by show e.1 = 11 ∨ e.1 = 12; omega
        obtain ⟨hp1, hp2, op, v, ho, hat⟩ := CI_at iv0_4 hJ
        obtain ⟨a1, a2, a3⟩ := id hat
        have hwg := wgt_hd0 (e := e) (W := W1) (by omega)
        refine x_aload_n C dX12_lands_22 rfl 0 rfl rfl ?_
        refine x_get C (ci := 11) (k := 15) 0 k22 rfl in_X12 (by decide) w_1133 rfl dX12_lands_23 rfl ?_
        refine x_aload_n C dX12_lands_26 rfl 0 rfl rfl ?_
        refine x_get C (ci := 11) (k := 11) 0 k22 rfl in_X12 (by decide) w_1129 rfl dX12_lands_27 rfl ?_
        refine x_iconst C (v := 1) dX12_lands_30 (by decide) rfl ?_
        refine x_isub C (v := (nI (wx - 1))) dX12_lands_31 (pk_sub (a := wx) (b := 1) (by omega)) rfl ?_
        refine x_ialk C (v := (fw (wx - 1))) (wx - 1) (nI_clamp (by omega)) (nI_pos (by omega)) (by omega) 6 iv0_2 rfl dX12_lands_32 rfl ?_
        refine x_top iv0_3.2.1 ?_
        refine x_ldc C w_1340 dX12_lands_33 rfl ?_
        refine x_irem C (v := (nI (e.2))) dX12_lands_35 (by decide) (remW (by omega) iv0_3.2.2.2.1) rfl ?_
        refine x_istore_n C (lv' := [(2, .int (nI (e.2))), (0, .ref (a 0)), (1, .int 0)]) dX12_lands_36 rfl (by decide) rfl rfl ?_
        refine x_aload_n C dX12_lands_37 rfl 1 rfl rfl ?_
        refine x_get C (ci := 11) (k := 14) 0 k22 rfl in_X12 (by decide) w_1132 rfl dX12_lands_38 rfl ?_
        refine x_iload_n C dX12_lands_41 rfl 0 rfl rfl ?_
        refine x_ldc C w_1340 dX12_lands_42 rfl ?_
        refine x_aload_n C dX12_lands_44 rfl 1 rfl rfl ?_
        refine x_get C (ci := 11) (k := 14) 0 k22 rfl in_X12 (by decide) w_1132 rfl dX12_lands_45 rfl ?_
        refine x_iload_n C dX12_lands_48 rfl 0 rfl rfl ?_
        refine x_ialk C (v := (fx (e.2))) (e.2) (nI_clamp (by omega)) (nI_pos (by omega)) (by omega) 5 iv0_1 rfl dX12_lands_49 rfl ?_
        refine x_top a3 ?_
        refine x_ldc C w_1340 dX12_lands_50 rfl ?_
        refine x_idiv C (v := (nI op)) dX12_lands_52 (by decide) (divU a1 a2) rfl ?_
        refine x_imul C (v := (nI (1048576 * op))) dX12_lands_53 (pk_mul 1048576 op) rfl ?_
        refine x_aload_n C dX12_lands_54 rfl 1 rfl rfl ?_
        refine x_get C (ci := 11) (k := 10) 0 k22 rfl in_X12 (by decide) w_1128 rfl dX12_lands_55 rfl ?_
        refine x_iadd C (v := (nI ((1048576 * op) + cm))) dX12_lands_58 (nI_add (1048576 * op) cm) rfl ?_
        obtain ⟨w30, hw31⟩ : ∃ w : va_W, w = List.set wl0 5 (iA E (a 5) 260 (upd fx (e.2) (nI ((1048576 * op) + cm)))) := ⟨_, rfl⟩
        refine x_iask C (e.2) (nI_clamp (by omega)) (nI_pos (by omega)) (by omega) 5 iv0_1 hw31.symm dX12_lands_59 rfl ?_
        have hW32 : WX (okM E a cd kf jn js jq) w30 := by rw [hw31]; exact hWl0.set (k := 5) rfl ⟨_, rfl⟩
        have k33 : w30[0]? = some (ob (a 0) 11 [.ref (a 1), .ref (a 2), .ref (a 3), .ref (a 4), .int (nI tp), .int (nI pl), .int (nI le), .int v12, .int nu, .int v13, .int (nI cm), .int (nI wx), .int (nI sm), .int (nI (cd.2.2.2.2.2)), .ref (a 5), .ref (a 6), .ref (a 7), .ref (a 8), .ref (a 9), .ref (a 10), .ref (a 11), .ref (a 12), .ref (a 13), .ref (a 14), .ref (a 15), .ref (a 16), .ref (a 17), .int (nI lm), .ref (a 18), .ref (a 19), .ref (a 20), .ref (a 21), .int v14, .int v15, .int v16, .int v17, .int (nI n18), .int (nI n19), .ref (a 22), .ref (a 23), .ref (a 24), .ref (a 25), .ref (a 26), .ref (a 27), .ref (a 28), .ref (a 29), .ref (a 30), .int kf]) := by rw [hw31]; exact set_ne k22 (by decide)
        have k34 : w30[5]? = some (iA E (a 5) 260 (upd fx (e.2) (nI ((1048576 * op) + cm)))) := by rw [hw31]; exact set_eq iv0_1
        have k35 : w30[6]? = some (iA E (a 6) 260 fw) := by rw [hw31]; exact set_ne iv0_2 (by decide)
        have kp36 := keeps_set kq0 hw31 (by first | exact rfl | decide | omega | (dsimp only; omega))
        refine x_aload_n C dX12_lands_60 rfl 1 rfl rfl ?_
        refine x_aload_n C dX12_lands_61 rfl 1 rfl rfl ?_
        refine x_get C (ci := 11) (k := 11) 0 k33 rfl in_X12 (by decide) w_1129 rfl dX12_lands_62 rfl ?_
        refine x_iconst C (v := 1) dX12_lands_65 (by decide) rfl ?_
        refine x_isub C (v := (nI (wx - 1))) dX12_lands_66 (pk_sub (a := wx) (b := 1) (by omega)) rfl ?_
        obtain ⟨w37, hw38⟩ : ∃ w : va_W, w = List.set w30 0 (ob (a 0) 11 [.ref (a 1), .ref (a 2), .ref (a 3), .ref (a 4), .int (nI tp), .int (nI pl), .int (nI le), .int v12, .int nu, .int v13, .int (nI cm), .int (nI (wx - 1)), .int (nI sm), .int (nI (cd.2.2.2.2.2)), .ref (a 5), .ref (a 6), .ref (a 7), .ref (a 8), .ref (a 9), .ref (a 10), .ref (a 11), .ref (a 12), .ref (a 13), .ref (a 14), .ref (a 15), .ref (a 16), .ref (a 17), .int (nI lm), .ref (a 18), .ref (a 19), .ref (a 20), .ref (a 21), .int v14, .int v15, .int v16, .int v17, .int (nI n18), .int (nI n19), .ref (a 22), .ref (a 23), .ref (a 24), .ref (a 25), .ref (a 26), .ref (a 27), .ref (a 28), .ref (a 29), .ref (a 30), .int kf]) := ⟨_, rfl⟩
        refine x_put C (ci := 11) (k := 11) (ty := .int) 0 k33 rfl in_X12 tyX12 tyX12_ok nmX12 (by decide) w_1129 rfl rfl rfl rfl (Nat.le_of_ble_eq_true rfl) hw38.symm dX12_lands_67 rfl ?_
        have hW39 : WX (okM E a cd kf jn js jq) w37 := by rw [hw38]; exact hW32.set (k := 0) rfl ⟨tp, pl, le, v12, nu, v13, cm, (wx - 1), sm, lm, v14, v15, v16, v17, n18, n19, by omega, by omega, by omega, by omega, by omega, by omega, by omega, by omega, by omega, rfl⟩
        have k40 : w37[0]? = some (ob (a 0) 11 [.ref (a 1), .ref (a 2), .ref (a 3), .ref (a 4), .int (nI tp), .int (nI pl), .int (nI le), .int v12, .int nu, .int v13, .int (nI cm), .int (nI (wx - 1)), .int (nI sm), .int (nI (cd.2.2.2.2.2)), .ref (a 5), .ref (a 6), .ref (a 7), .ref (a 8), .ref (a 9), .ref (a 10), .ref (a 11), .ref (a 12), .ref (a 13), .ref (a 14), .ref (a 15), .ref (a 16), .ref (a 17), .int (nI lm), .ref (a 18), .ref (a 19), .ref (a 20), .ref (a 21), .int v14, .int v15, .int v16, .int v17, .int (nI n18), .int (nI n19), .ref (a 22), .ref (a 23), .ref (a 24), .ref (a 25), .ref (a 26), .ref (a 27), .ref (a 28), .ref (a 29), .ref (a 30), .int kf]) := by rw [hw38]; exact set_eq k33
        have k41 : w37[5]? = some (iA E (a 5) 260 (upd fx (e.2) (nI ((1048576 * op) + cm)))) := by rw [hw38]; exact set_ne k34 (by decide)
        have k42 : w37[6]? = some (iA E (a 6) 260 fw) := by rw [hw38]; exact set_ne k35 (by decide)
        have kp43 := keeps_set kp36 hw38 (by first | exact rfl | decide | omega | (dsimp only; omega))
        refine x_goto C (tgt := 0) dX12_lands_70 (by decide) ?_
        refine x_lv (lv1 := [(0, .ref (a 0)), (1, .int 0)]) [1, 2] rfl ?_
        exact ih0 (wx - 1) ((upd fx (e.2) (nI ((1048576 * op) + cm)))) W1 w37 hW39 (by omega) ⟨v12, v13, v14, v15, v16, v17, n18, n19, ⟨by omega, by omega, by omega, by omega, by omega, by omega, by omega⟩, ⟨by omega, by omega⟩, k40⟩ k41 k42 iv0_3.2.2.2.2 (CI_land iv0_4 hJ ho hat (by omega)) (cOps_hd iv0_5).2 (bot_hd iv0_6 (by omega)) (by omega) (ag_upd iv0_8 hp1) kp43
      · skip
        have nf44 : ¬ e.1 = 11 := fun q => c28 (congrArg nI q)
        refine x_iload_n C dX12_lands_9 rfl 1 rfl rfl ?_
        refine x_if_eq C (tgt := 73) dX12_lands_10 (by decide) rfl (fun _ => ?_) (fun h => absurd h (by decide))
        exact x_vret C hr hlk dX12_lands_73 ⟨hWl0, kq0, ⟨wx, fx, (e :: W1), iv0_3, by omega, ⟨v12, v13, v14, v15, v16, v17, n18, n19, ⟨by omega, by omega, by omega, by omega, by omega, by omega, by omega⟩, ⟨by omega, by omega⟩, k22⟩, iv0_1, iv0_4, iv0_5, iv0_6, by omega, iv0_8⟩⟩
  refine x_lv (lv1 := [(0, .ref (a 0)), (1, .int 0)]) [0, 1] rfl ?_
  exact loop0 _ wt fs W ws hW (Nat.lt_succ_self _) ⟨v1, v2, v3, v4, v5, v6, n7, n8, ⟨by omega, by omega, by omega, by omega, by omega, by omega, by omega⟩, ⟨by omega, by omega⟩, k11⟩ hfs hfw hwr hci hco hbo ⟨rfl, Nat.le_refl _⟩ (fun _ _ => rfl) kp0
theorem dX12_lands_13 : decode cX12_lands 13 = .ok (.aload_n 0, 1) := by decide +kernel
theorem dX12_lands_14 : decode cX12_lands 14 = .ok (.invokevirtual 164, 3) := by decide +kernel
theorem dX12_lands_17 : decode cX12_lands 17 = .ok (.bipush 12, 2) := by decide +kernel
theorem dX12_lands_19 : decode cX12_lands 19 = .ok (.if_icmp .ne 54, 3) := by decide +kernel
set_option maxRecDepth 20000 in
set_option maxHeartbeats 4000000 in
theorem m_lands1 (E : xE) (l : Launch) (a : Nat → Nat) (cd : Cd) (hG : Good cd) (kf : Int32) (jn js jq : Lb) (ws : va_W) (hW : WX (okM E a cd kf jn js jq) ws) (tp pl le cm wt sm lm : Nat) (nu : Int32) (h0 : MO a cd kf ws tp pl le cm wt sm lm nu) (fs : Nat → Int32) (hfs : ws[5]? = some (iA E (a 5) 260 fs)) (fw : Nat → Int32) (hfw : ws[6]? = some (iA E (a 6) 260 fw)) (W : WL) (hwr : wR fw W wt) (c0 : Nat) (hci : CI fs c0 cm 1 W) (hco : cOps W) (hbo : bot W) (hphi : cm + wgt W ≤ 240) : xV E l yX12_lands cX12_lands 3 1 0 0 [.ref (a 0), .int 1] ws (fun w => WX (okM E a cd kf jn js jq) w ∧ keeps ws w (fun q => q = 0 ∨ q = 5) ∧ (∃ (wt2 : Nat) (fs2 : Nat → Int32) (We : WL), wR fw We wt2 ∧ wt2 ≤ wt ∧ MO a cd kf w tp pl le cm wt2 sm lm nu ∧ w[5]? = some (iA E (a 5) 260 fs2) ∧ CI fs2 c0 cm 1 We ∧ cOps We ∧ bot We ∧ wgt We = wgt W ∧ (∀ k, k < c0 → fs2 k = fs k) ∧ ∀ (e : Nat × Nat) (W1 : WL), We = e :: W1 → ¬ isJ e)) := by
  refine xV_start (lv := [(0, .ref (a 0)), (1, .int 1)]) RX12 (by decide) rfl (Nat.le_of_ble_eq_true rfl) rfl (fun p e s m below meth c A C hr hlk hin => ?_)
  have kp0 : keeps ws ws (fun q => q = 0 ∨ q = 5) := keeps_rf
  obtain ⟨v1, v2, v3, v4, v5, v6, n7, n8, bo9, bo10, k11⟩ := h0
  have loop0 : ∀ (fu0 : Nat) (wx : Nat) (fx : Nat → Int32) (Wx : WL) (wl0 : va_W), WX (okM E a cd kf jn js jq) wl0 → Wx.length < fu0 → MO a cd kf wl0 tp pl le cm wx sm lm nu → wl0[5]? = some (iA E (a 5) 260 fx) → wl0[6]? = some (iA E (a 6) 260 fw) → wR fw Wx wx → CI fx c0 cm 1 Wx → cOps Wx → bot Wx → wgt Wx = wgt W ∧ wx ≤ wt → (∀ k, k < c0 → fx k = fs k) → keeps ws wl0 (fun q => q = 0 ∨ q = 5) → X E p l e (xRm 1 0 0) s m ([.ref (a 0), .int 1] : List Value).toArray below meth c A 3 0 0 (MQ below (va_Qv (fun w => WX (okM E a cd kf jn js jq) w ∧ keeps ws w (fun q => q = 0 ∨ q = 5) ∧ (∃ (wt2 : Nat) (fs2 : Nat → Int32) (We : WL), wR fw We wt2 ∧ wt2 ≤ wt ∧ MO a cd kf w tp pl le cm wt2 sm lm nu ∧ w[5]? = some (iA E (a 5) 260 fs2) ∧ CI fs2 c0 cm 1 We ∧ cOps We ∧ bot We ∧ wgt We = wgt W ∧ (∀ k, k < c0 → fs2 k = fs k) ∧ ∀ (e : Nat × Nat) (W1 : WL), We = e :: W1 → ¬ isJ e)) (xB E A) A) ([.ref (a 0), .int 1] : List Value).toArray s 0 0 A) wl0 0 [(0, .ref (a 0)), (1, .int 1)] [] := by
    intro fu0
    induction fu0 with
    | zero => intro wx fx Wx wl0 _ q; omega
    | succ fu0 ih0 =>
      intro wx fx Wx wl0 hWl0 me0 iv0_0 iv0_1 iv0_2 iv0_3 iv0_4 iv0_5 iv0_6 iv0_7 iv0_8 kq0
      obtain ⟨v12, v13, v14, v15, v16, v17, n18, n19, bo20, bo21, k22⟩ := iv0_0
      refine x_aload_n C dX12_lands_0 rfl 0 rfl rfl ?_
      rcases Wx with _ | ⟨e, W1⟩
      · exact (bot_nil iv0_6).elim
      have hs1 := (cOps_hd iv0_5).1
      have hw1 := iv0_3.1
      have hl1 : (e :: W1).length = W1.length + 1 := rfl
      refine x_vi C (As := []) (rest := []) (m_waitTop E l a cd hG kf jn js jq wl0 hWl0 tp pl le cm wx sm lm nu ⟨v12, v13, v14, v15, v16, v17, n18, n19, ⟨by omega, by omega, by omega, by omega, by omega, by omega, by omega⟩, ⟨by omega, by omega⟩, k22⟩ fw iv0_2 (e :: W1) iv0_3) mf_X12_waitTop w_1363 0 k22 rfl rfl rfl (Nat.le_of_ble_eq_true rfl) ⟨(Nat.le_of_ble_eq_true rfl), (Nat.le_of_ble_eq_true rfl)⟩ ⟨(Nat.le_of_ble_eq_true rfl), (Nat.le_of_ble_eq_true rfl)⟩ dX12_lands_1 rfl (fun r24 w25 h23 => ?_)
      obtain ⟨hW26, x27⟩ := h23
      refine x_ws hW26 ?_
      refine x_top (x27.trans (show wtop (e :: W1) = (nI (e.1)) from rfl)) ?_
      refine x_bipush C (v := 11) dX12_lands_4 (by decide) rfl ?_
      refine x_icmp_eq C (tgt := 22) dX12_lands_6 (by decide) rfl (fun c28 => ?_) (fun c28 => ?_)
      · skip
        have nf29 : e.1 = 11 := (nI_eq (by omega) (by omega)).mp c28
        have hJ : isJ e := by show e.1 = 11 ∨ e.1 = 12; omega
        obtain ⟨hp1, hp2, op, v, ho, hat⟩ := CI_at iv0_4 hJ
        obtain ⟨a1, a2, a3⟩ := id hat
        have hwg := wgt_hd0 (e := e) (W := W1) (by omega)
        refine x_aload_n C dX12_lands_22 rfl 0 rfl rfl ?_
        refine x_get C (ci := 11) (k := 15) 0 k22 rfl in_X12 (by decide) w_1133 rfl dX12_lands_23 rfl ?_
        refine x_aload_n C dX12_lands_26 rfl 0 rfl rfl ?_
        refine x_get C (ci := 11) (k := 11) 0 k22 rfl in_X12 (by decide) w_1129 rfl dX12_lands_27 rfl ?_
        refine x_iconst C (v := 1) dX12_lands_30 (by decide) rfl ?_
        refine x_isub C (v := (nI (wx - 1))) dX12_lands_31 (pk_sub (a := wx) (b := 1) (by omega)) rfl ?_
        refine x_ialk C (v := (fw (wx - 1))) (wx - 1) (nI_clamp (by omega)) (nI_pos (by omega)) (by omega) 6 iv0_2 rfl dX12_lands_32 rfl ?_
        refine x_top iv0_3.2.1 ?_
        refine x_ldc C w_1340 dX12_lands_33 rfl ?_
        refine x_irem C (v := (nI (e.2))) dX12_lands_35 (by decide) (remW (by omega) iv0_3.2.2.2.1) rfl ?_
        refine x_istore_n C (lv' := [(2, .int (nI (e.2))), (0, .ref (a 0)), (1, .int 1)]) dX12_lands_36 rfl (by decide) rfl rfl ?_
        refine x_aload_n C dX12_lands_37 rfl 1 rfl rfl ?_
        refine x_get C (ci := 11) (k := 14) 0 k22 rfl in_X12 (by decide) w_1132 rfl dX12_lands_38 rfl ?_
        refine x_iload_n C dX12_lands_41 rfl 0 rfl rfl ?_
        refine x_ldc C w_1340 dX12_lands_42 rfl ?_
        refine x_aload_n C dX12_lands_44 rfl 1 rfl rfl ?_
        refine x_get C (ci := 11) (k := 14) 0 k22 rfl in_X12 (by decide) w_1132 rfl dX12_lands_45 rfl ?_
        refine x_iload_n C dX12_lands_48 rfl 0 rfl rfl ?_
        refine x_ialk C (v := (fx (e.2))) (e.2) (nI_clamp (by omega)) (nI_pos (by omega)) (by omega) 5 iv0_1 rfl dX12_lands_49 rfl ?_
        refine x_top a3 ?_
        refine x_ldc C w_1340 dX12_lands_50 rfl ?_
        refine x_idiv C (v := (nI op)) dX12_lands_52 (by decide) (divU a1 a2) rfl ?_
        refine x_imul C (v := (nI (1048576 * op))) dX12_lands_53 (pk_mul 1048576 op) rfl ?_
        refine x_aload_n C dX12_lands_54 rfl 1 rfl rfl ?_
        refine x_get C (ci := 11) (k := 10) 0 k22 rfl in_X12 (by decide) w_1128 rfl dX12_lands_55 rfl ?_
        refine x_iadd C (v := (nI ((1048576 * op) + cm))) dX12_lands_58 (nI_add (1048576 * op) cm) rfl ?_
        obtain ⟨w30, hw31⟩ : ∃ w : va_W, w = List.set wl0 5 (iA E (a 5) 260 (upd fx (e.2) (nI ((1048576 * op) + cm)))) := ⟨_, rfl⟩
        refine x_iask C (e.2) (nI_clamp (by omega)) (nI_pos (by omega)) (by omega) 5 iv0_1 hw31.symm dX12_lands_59 rfl ?_
        have hW32 : WX (okM E a cd kf jn js jq) w30 := by rw [hw31]; exact hWl0.set (k := 5) rfl ⟨_, rfl⟩
        have k33 : w30[0]? = some (ob (a 0) 11 [.ref (a 1), .ref (a 2), .ref (a 3), .ref (a 4), .int (nI tp), .int (nI pl), .int (nI le), .int v12, .int nu, .int v13, .int (nI cm), .int (nI wx), .int (nI sm), .int (nI (cd.2.2.2.2.2)), .ref (a 5), .ref (a 6), .ref (a 7), .ref (a 8), .ref (a 9), .ref (a 10), .ref (a 11), .ref (a 12), .ref (a 13), .ref (a 14), .ref (a 15), .ref (a 16), .ref (a 17), .int (nI lm), .ref (a 18), .ref (a 19), .ref (a 20), .ref (a 21), .int v14, .int v15, .int v16, .int v17, .int (nI n18), .int (nI n19), .ref (a 22), .ref (a 23), .ref (a 24), .ref (a 25), .ref (a 26), .ref (a 27), .ref (a 28), .ref (a 29), .ref (a 30), .int kf]) := by rw [hw31]; exact set_ne k22 (by decide)
        have k34 : w30[5]? = some (iA E (a 5) 260 (upd fx (e.2) (nI ((1048576 * op) + cm)))) := by rw [hw31]; exact set_eq iv0_1
        have k35 : w30[6]? = some (iA E (a 6) 260 fw) := by rw [hw31]; exact set_ne iv0_2 (by decide)
        have kp36 := keeps_set kq0 hw31 (by first | exact rfl | decide | omega | (dsimp only; omega))
        refine x_aload_n C dX12_lands_60 rfl 1 rfl rfl ?_
        refine x_aload_n C dX12_lands_61 rfl 1 rfl rfl ?_
        refine x_get C (ci := 11) (k := 11) 0 k33 rfl in_X12 (by decide) w_1129 rfl dX12_lands_62 rfl ?_
        refine x_iconst C (v := 1) dX12_lands_65 (by decide) rfl ?_
        refine x_isub C (v := (nI (wx - 1))) dX12_lands_66 (pk_sub (a := wx) (b := 1) (by omega)) rfl ?_
        obtain ⟨w37, hw38⟩ : ∃ w : va_W, w = List.set w30 0 (ob (a 0) 11 [.ref (a 1), .ref (a 2), .ref (a 3), .ref (a 4), .int (nI tp), .int (nI pl), .int (nI le), .int v12, .int nu, .int v13, .int (nI cm), .int (nI (wx - 1)), .int (nI sm), .int (nI (cd.2.2.2.2.2)), .ref (a 5), .ref (a 6), .ref (a 7), .ref (a 8), .ref (a 9), .ref (a 10), .ref (a 11), .ref (a 12), .ref (a 13), .ref (a 14), .ref (a 15), .ref (a 16), .ref (a 17), .int (nI lm), .ref (a 18), .ref (a 19), .ref (a 20), .ref (a 21), .int v14, .int v15, .int v16, .int v17, .int (nI n18), .int (nI n19), .ref (a 22), .ref (a 23), .ref (a 24), .ref (a 25), .ref (a 26), .ref (a 27), .ref (a 28), .ref (a 29), .ref (a 30), .int kf]) := ⟨_, rfl⟩
        refine x_put C (ci := 11) (k := 11) (ty := .int) 0 k33 rfl in_X12 tyX12 tyX12_ok nmX12 (by decide) w_1129 rfl rfl rfl rfl (Nat.le_of_ble_eq_true rfl) hw38.symm dX12_lands_67 rfl ?_
        have hW39 : WX (okM E a cd kf jn js jq) w37 := by rw [hw38]; exact hW32.set (k := 0) rfl ⟨tp, pl, le, v12, nu, v13, cm, (wx - 1), sm, lm, v14, v15, v16, v17, n18, n19, by omega, by omega, by omega, by omega, by omega, by omega, by omega, by omega, by omega, rfl⟩
        have k40 : w37[0]? = some (ob (a 0) 11 [.ref (a 1), .ref (a 2), .ref (a 3), .ref (a 4), .int (nI tp), .int (nI pl), .int (nI le), .int v12, .int nu, .int v13, .int (nI cm), .int (nI (wx - 1)), .int (nI sm), .int (nI (cd.2.2.2.2.2)), .ref (a 5), .ref (a 6), .ref (a 7), .ref (a 8), .ref (a 9), .ref (a 10), .ref (a 11), .ref (a 12), .ref (a 13), .ref (a 14), .ref (a 15), .ref (a 16), .ref (a 17), .int (nI lm), .ref (a 18), .ref (a 19), .ref (a 20), .ref (a 21), .int v14, .int v15, .int v16, .int v17, .int (nI n18), .int (nI n19), .ref (a 22), .ref (a 23), .ref (a 24), .ref (a 25), .ref (a 26), .ref (a 27), .ref (a 28), .ref (a 29), .ref (a 30), .int kf]) := by rw [hw38]; exact set_eq k33
        have k41 : w37[5]? = some (iA E (a 5) 260 (upd fx (e.2) (nI ((1048576 * op) + cm)))) := by rw [hw38]; exact set_ne k34 (by decide)
        have k42 : w37[6]? = some (iA E (a 6) 260 fw) := by rw [hw38]; exact set_ne k35 (by decide)
        have kp43 := keeps_set kp36 hw38 (by first | exact rfl | decide | omega | (dsimp only; omega))
        refine x_goto C (tgt := 0) dX12_lands_70 (by decide) ?_
        refine x_lv (lv1 := [(0, .ref (a 0)), (1, .int 1)]) [1, 2] rfl ?_
        exact ih0 (wx - 1) ((upd fx (e.2) (nI ((1048576 * op) + cm)))) W1 w37 hW39 (by omega) ⟨v12, v13, v14, v15, v16, v17, n18, n19, ⟨by omega, by omega, by omega, by omega, by omega, by omega, by omega⟩, ⟨by omega, by omega⟩, k40⟩ k41 k42 iv0_3.2.2.2.2 (CI_land iv0_4 hJ ho hat (by omega)) (cOps_hd iv0_5).2 (bot_hd iv0_6 (by omega)) (by omega) (ag_upd iv0_8 hp1) kp43
      · skip
        have nf44 : ¬ e.1 = 11 := fun q => c28 (congrArg nI q)
        refine x_iload_n C dX12_lands_9 rfl 1 rfl rfl ?_
        refine x_if_eq C (tgt := 73) dX12_lands_10 (by decide) rfl (fun h => absurd h (by decide)) (fun _ => ?_)
        refine x_aload_n C dX12_lands_13 rfl 0 rfl rfl ?_
        refine x_vi C (As := []) (rest := []) (m_waitTop E l a cd hG kf jn js jq wl0 hWl0 tp pl le cm wx sm lm nu ⟨v12, v13, v14, v15, v16, v17, n18, n19, ⟨by omega, by omega, by omega, by omega, by omega, by omega, by omega⟩, ⟨by omega, by omega⟩, k22⟩ fw iv0_2 (e :: W1) iv0_3) mf_X12_waitTop w_1363 0 k22 rfl rfl rfl (Nat.le_of_ble_eq_true rfl) ⟨(Nat.le_of_ble_eq_true rfl), (Nat.le_of_ble_eq_true rfl)⟩ ⟨(Nat.le_of_ble_eq_true rfl), (Nat.le_of_ble_eq_true rfl)⟩ dX12_lands_14 rfl (fun r46 w47 h45 => ?_)
        obtain ⟨hW48, x49⟩ := h45
        refine x_ws hW48 ?_
        refine x_top (x49.trans (show wtop (e :: W1) = (nI (e.1)) from rfl)) ?_
        refine x_bipush C (v := 12) dX12_lands_17 (by decide) rfl ?_
        refine x_icmp_ne C (tgt := 73) dX12_lands_19 (by decide) rfl (fun c50 => ?_) (fun c50 => ?_)
        · skip
          have nf51 : ¬ e.1 = 12 := fun q => c50 (congrArg nI q)
          exact x_vret C hr hlk dX12_lands_73 ⟨hWl0, kq0, ⟨wx, fx, (e :: W1), iv0_3, by omega, ⟨v12, v13, v14, v15, v16, v17, n18, n19, ⟨by omega, by omega, by omega, by omega, by omega, by omega, by omega⟩, ⟨by omega, by omega⟩, k22⟩, iv0_1, iv0_4, iv0_5, iv0_6, by omega, iv0_8, fun e9 W9 q9 => by injection q9 with q8 q7; subst q8; exact nJ ⟨by omega, by omega⟩⟩⟩
        · skip
          have nf52 : e.1 = 12 := (nI_eq (by omega) (by omega)).mp c50
          have hJ : isJ e := by show e.1 = 11 ∨ e.1 = 12; omega
          obtain ⟨hp1, hp2, op, v, ho, hat⟩ := CI_at iv0_4 hJ
          obtain ⟨a1, a2, a3⟩ := id hat
          have hwg := wgt_hd0 (e := e) (W := W1) (by omega)
          refine x_aload_n C dX12_lands_22 rfl 0 rfl rfl ?_
          refine x_get C (ci := 11) (k := 15) 0 k22 rfl in_X12 (by decide) w_1133 rfl dX12_lands_23 rfl ?_
          refine x_aload_n C dX12_lands_26 rfl 0 rfl rfl ?_
          refine x_get C (ci := 11) (k := 11) 0 k22 rfl in_X12 (by decide) w_1129 rfl dX12_lands_27 rfl ?_
          refine x_iconst C (v := 1) dX12_lands_30 (by decide) rfl ?_
          refine x_isub C (v := (nI (wx - 1))) dX12_lands_31 (pk_sub (a := wx) (b := 1) (by omega)) rfl ?_
          refine x_ialk C (v := (fw (wx - 1))) (wx - 1) (nI_clamp (by omega)) (nI_pos (by omega)) (by omega) 6 iv0_2 rfl dX12_lands_32 rfl ?_
          refine x_top iv0_3.2.1 ?_
          refine x_ldc C w_1340 dX12_lands_33 rfl ?_
          refine x_irem C (v := (nI (e.2))) dX12_lands_35 (by decide) (remW (by omega) iv0_3.2.2.2.1) rfl ?_
          refine x_istore_n C (lv' := [(2, .int (nI (e.2))), (0, .ref (a 0)), (1, .int 1)]) dX12_lands_36 rfl (by decide) rfl rfl ?_
          refine x_aload_n C dX12_lands_37 rfl 1 rfl rfl ?_
          refine x_get C (ci := 11) (k := 14) 0 k22 rfl in_X12 (by decide) w_1132 rfl dX12_lands_38 rfl ?_
          refine x_iload_n C dX12_lands_41 rfl 0 rfl rfl ?_
          refine x_ldc C w_1340 dX12_lands_42 rfl ?_
          refine x_aload_n C dX12_lands_44 rfl 1 rfl rfl ?_
          refine x_get C (ci := 11) (k := 14) 0 k22 rfl in_X12 (by decide) w_1132 rfl dX12_lands_45 rfl ?_
          refine x_iload_n C dX12_lands_48 rfl 0 rfl rfl ?_
          refine x_ialk C (v := (fx (e.2))) (e.2) (nI_clamp (by omega)) (nI_pos (by omega)) (by omega) 5 iv0_1 rfl dX12_lands_49 rfl ?_
          refine x_top a3 ?_
          refine x_ldc C w_1340 dX12_lands_50 rfl ?_
          refine x_idiv C (v := (nI op)) dX12_lands_52 (by decide) (divU a1 a2) rfl ?_
          refine x_imul C (v := (nI (1048576 * op))) dX12_lands_53 (pk_mul 1048576 op) rfl ?_
          refine x_aload_n C dX12_lands_54 rfl 1 rfl rfl ?_
          refine x_get C (ci := 11) (k := 10) 0 k22 rfl in_X12 (by decide) w_1128 rfl dX12_lands_55 rfl ?_
          refine x_iadd C (v := (nI ((1048576 * op) + cm))) dX12_lands_58 (nI_add (1048576 * op) cm) rfl ?_
          obtain ⟨w53, hw54⟩ : ∃ w : va_W, w = List.set wl0 5 (iA E (a 5) 260 (upd fx (e.2) (nI ((1048576 * op) + cm)))) := ⟨_, rfl⟩
          refine x_iask C (e.2) (nI_clamp (by omega)) (nI_pos (by omega)) (by omega) 5 iv0_1 hw54.symm dX12_lands_59 rfl ?_
          have hW55 : WX (okM E a cd kf jn js jq) w53 := by rw [hw54]; exact hWl0.set (k := 5) rfl ⟨_, rfl⟩
          have k56 : w53[0]? = some (ob (a 0) 11 [.ref (a 1), .ref (a 2), .ref (a 3), .ref (a 4), .int (nI tp), .int (nI pl), .int (nI le), .int v12, .int nu, .int v13, .int (nI cm), .int (nI wx), .int (nI sm), .int (nI (cd.2.2.2.2.2)), .ref (a 5), .ref (a 6), .ref (a 7), .ref (a 8), .ref (a 9), .ref (a 10), .ref (a 11), .ref (a 12), .ref (a 13), .ref (a 14), .ref (a 15), .ref (a 16), .ref (a 17), .int (nI lm), .ref (a 18), .ref (a 19), .ref (a 20), .ref (a 21), .int v14, .int v15, .int v16, .int v17, .int (nI n18), .int (nI n19), .ref (a 22), .ref (a 23), .ref (a 24), .ref (a 25), .ref (a 26), .ref (a 27), .ref (a 28), .ref (a 29), .ref (a 30), .int kf]) := by rw [hw54]; exact set_ne k22 (by decide)
          have k57 : w53[5]? = some (iA E (a 5) 260 (upd fx (e.2) (nI ((1048576 * op) + cm)))) := by rw [hw54]; exact set_eq iv0_1
          have k58 : w53[6]? = some (iA E (a 6) 260 fw) := by rw [hw54]; exact set_ne iv0_2 (by decide)
          have kp59 := keeps_set kq0 hw54 (by first | exact rfl | decide | omega | (dsimp only; omega))
          refine x_aload_n C dX12_lands_60 rfl 1 rfl rfl ?_
          refine x_aload_n C dX12_lands_61 rfl 1 rfl rfl ?_
          refine x_get C (ci := 11) (k := 11) 0 k56 rfl in_X12 (by decide) w_1129 rfl dX12_lands_62 rfl ?_
          refine x_iconst C (v := 1) dX12_lands_65 (by decide) rfl ?_
          refine x_isub C (v := (nI (wx - 1))) dX12_lands_66 (pk_sub (a := wx) (b := 1) (by omega)) rfl ?_
          obtain ⟨w60, hw61⟩ : ∃ w : va_W, w = List.set w53 0 (ob (a 0) 11 [.ref (a 1), .ref (a 2), .ref (a 3), .ref (a 4), .int (nI tp), .int (nI pl), .int (nI le), .int v12, .int nu, .int v13, .int (nI cm), .int (nI (wx - 1)), .int (nI sm), .int (nI (cd.2.2.2.2.2)), .ref (a 5), .ref (a 6), .ref (a 7), .ref (a 8), .ref (a 9), .ref (a 10), .ref (a 11), .ref (a 12), .ref (a 13), .ref (a 14), .ref (a 15), .ref (a 16), .ref (a 17), .int (nI lm), .ref (a 18), .ref (a 19), .ref (a 20), .ref (a 21), .int v14, .int v15, .int v16, .int v17, .int (nI n18), .int (nI n19), .ref (a 22), .ref (a 23), .ref (a 24), .ref (a 25), .ref (a 26), .ref (a 27), .ref (a 28), .ref (a 29), .ref (a 30), .int kf]) := ⟨_, rfl⟩
          refine x_put C (ci := 11) (k := 11) (ty := .int) 0 k56 rfl in_X12 tyX12 tyX12_ok nmX12 (by decide) w_1129 rfl rfl rfl rfl (Nat.le_of_ble_eq_true rfl) hw61.symm dX12_lands_67 rfl ?_
          have hW62 : WX (okM E a cd kf jn js jq) w60 := by rw [hw61]; exact hW55.set (k := 0) rfl ⟨tp, pl, le, v12, nu, v13, cm, (wx - 1), sm, lm, v14, v15, v16, v17, n18, n19, by omega, by omega, by omega, by omega, by omega, by omega, by omega, by omega, by omega, rfl⟩
          have k63 : w60[0]? = some (ob (a 0) 11 [.ref (a 1), .ref (a 2), .ref (a 3), .ref (a 4), .int (nI tp), .int (nI pl), .int (nI le), .int v12, .int nu, .int v13, .int (nI cm), .int (nI (wx - 1)), .int (nI sm), .int (nI (cd.2.2.2.2.2)), .ref (a 5), .ref (a 6), .ref (a 7), .ref (a 8), .ref (a 9), .ref (a 10), .ref (a 11), .ref (a 12), .ref (a 13), .ref (a 14), .ref (a 15), .ref (a 16), .ref (a 17), .int (nI lm), .ref (a 18), .ref (a 19), .ref (a 20), .ref (a 21), .int v14, .int v15, .int v16, .int v17, .int (nI n18), .int (nI n19), .ref (a 22), .ref (a 23), .ref (a 24), .ref (a 25), .ref (a 26), .ref (a 27), .ref (a 28), .ref (a 29), .ref (a 30), .int kf]) := by rw [hw61]; exact set_eq k56
          have k64 : w60[5]? = some (iA E (a 5) 260 (upd fx (e.2) (nI ((1048576 * op) + cm)))) := by rw [hw61]; exact set_ne k57 (by decide)
          have k65 : w60[6]? = some (iA E (a 6) 260 fw) := by rw [hw61]; exact set_ne k58 (by decide)
          have kp66 := keeps_set kp59 hw61 (by first | exact rfl | decide | omega | (dsimp only; omega))
          refine x_goto C (tgt := 0) dX12_lands_70 (by decide) ?_
          refine x_lv (lv1 := [(0, .ref (a 0)), (1, .int 1)]) [1, 2] rfl ?_
          exact ih0 (wx - 1) ((upd fx (e.2) (nI ((1048576 * op) + cm)))) W1 w60 hW62 (by omega) ⟨v12, v13, v14, v15, v16, v17, n18, n19, ⟨by omega, by omega, by omega, by omega, by omega, by omega, by omega⟩, ⟨by omega, by omega⟩, k63⟩ k64 k65 iv0_3.2.2.2.2 (CI_land iv0_4 hJ ho hat (by omega)) (cOps_hd iv0_5).2 (bot_hd iv0_6 (by omega)) (by omega) (ag_upd iv0_8 hp1) kp66
  refine x_lv (lv1 := [(0, .ref (a 0)), (1, .int 1)]) [0, 1] rfl ?_
  exact loop0 _ wt fs W ws hW (Nat.lt_succ_self _) ⟨v1, v2, v3, v4, v5, v6, n7, n8, ⟨by omega, by omega, by omega, by omega, by omega, by omega, by omega⟩, ⟨by omega, by omega⟩, k11⟩ hfs hfw hwr hci hco hbo ⟨rfl, Nat.le_refl _⟩ (fun _ _ => rfl) kp0
theorem dX12_jumps_0 : decode cX12_jumps 0 = .ok (.aload_n 0, 1) := by decide +kernel
theorem dX12_jumps_1 : decode cX12_jumps 1 = .ok (.getfield 26, 3) := by decide +kernel
theorem dX12_jumps_4 : decode cX12_jumps 4 = .ok (.aload_n 0, 1) := by decide +kernel
theorem dX12_jumps_5 : decode cX12_jumps 5 = .ok (.getfield 161, 3) := by decide +kernel
theorem dX12_jumps_8 : decode cX12_jumps 8 = .ok (.ldc 157, 2) := by decide +kernel
theorem dX12_jumps_10 : decode cX12_jumps 10 = .ok (.iload_n 1, 1) := by decide +kernel
theorem dX12_jumps_11 : decode cX12_jumps 11 = .ok (.imul, 1) := by decide +kernel
theorem dX12_jumps_12 : decode cX12_jumps 12 = .ok (.aload_n 0, 1) := by decide +kernel
theorem dX12_jumps_13 : decode cX12_jumps 13 = .ok (.getfield 154, 3) := by decide +kernel
theorem dX12_jumps_16 : decode cX12_jumps 16 = .ok (.iadd, 1) := by decide +kernel
theorem dX12_jumps_17 : decode cX12_jumps 17 = .ok (.iastore, 1) := by decide +kernel
theorem dX12_jumps_18 : decode cX12_jumps 18 = .ok (.aload_n 0, 1) := by decide +kernel
theorem dX12_jumps_19 : decode cX12_jumps 19 = .ok (.aload_n 0, 1) := by decide +kernel
theorem dX12_jumps_20 : decode cX12_jumps 20 = .ok (.getfield 161, 3) := by decide +kernel
theorem dX12_jumps_23 : decode cX12_jumps 23 = .ok (.iconst 1, 1) := by decide +kernel
theorem dX12_jumps_24 : decode cX12_jumps 24 = .ok (.iadd, 1) := by decide +kernel
theorem dX12_jumps_25 : decode cX12_jumps 25 = .ok (.putfield 161, 3) := by decide +kernel
theorem dX12_jumps_28 : decode cX12_jumps 28 = .ok (.aload_n 0, 1) := by decide +kernel
theorem dX12_jumps_29 : decode cX12_jumps 29 = .ok (.iload_n 1, 1) := by decide +kernel
theorem dX12_jumps_30 : decode cX12_jumps 30 = .ok (.iconst 0, 1) := by decide +kernel
theorem dX12_jumps_31 : decode cX12_jumps 31 = .ok (.invokevirtual 167, 3) := by decide +kernel
theorem dX12_jumps_34 : decode cX12_jumps 34 = .ok (.aload_n 0, 1) := by decide +kernel
theorem dX12_jumps_35 : decode cX12_jumps 35 = .ok (.aload_n 0, 1) := by decide +kernel
theorem dX12_jumps_36 : decode cX12_jumps 36 = .ok (.getfield 131, 3) := by decide +kernel
theorem dX12_jumps_39 : decode cX12_jumps 39 = .ok (.iconst 1, 1) := by decide +kernel
theorem dX12_jumps_40 : decode cX12_jumps 40 = .ok (.iadd, 1) := by decide +kernel
theorem dX12_jumps_41 : decode cX12_jumps 41 = .ok (.putfield 131, 3) := by decide +kernel
theorem dX12_jumps_44 : decode cX12_jumps 44 = .ok (.return_, 1) := by decide +kernel
set_option maxRecDepth 20000 in
set_option maxHeartbeats 4000000 in
theorem m_jumps11 (E : xE) (l : Launch) (a : Nat → Nat) (cd : Cd) (hG : Good cd) (kf : Int32) (jn js jq : Lb) (ws : va_W) (hW : WX (okM E a cd kf jn js jq) ws) (tp pl le cm wt sm lm : Nat) (nu : Int32) (h0 : MO a cd kf ws tp pl le cm wt sm lm nu) (fs : Nat → Int32) (hfs : ws[5]? = some (iA E (a 5) 260 fs)) (fw : Nat → Int32) (hfw : ws[6]? = some (iA E (a 6) 260 fw)) (hwt : wt ≤ 259) (hcm : cm ≤ 259) (hpl : pl ≤ 239) : xV E l yX12_jumps cX12_jumps 2 1 0 0 [.ref (a 0), .int 11] ws (fun w => WX (okM E a cd kf jn js jq) w ∧ keeps ws w (fun q => q = 0 ∨ q = 5 ∨ q = 6) ∧ (MO a cd kf w tp (pl + 1) le (cm + 1) (wt + 1) sm lm nu ∧ w[5]? = some (iA E (a 5) 260 (upd fs cm (nI (1048576 * 11 + 0)))) ∧ w[6]? = some (iA E (a 6) 260 (upd fw wt (nI (1048576 * 11 + cm)))))) := by
  refine xV_start (lv := [(0, .ref (a 0)), (1, .int 11)]) RX12 (by decide) rfl (Nat.le_of_ble_eq_true rfl) rfl (fun p e s m below meth c A C hr hlk hin => ?_)
  have kp0 : keeps ws ws (fun q => q = 0 ∨ q = 5 ∨ q = 6) := keeps_rf
  obtain ⟨v1, v2, v3, v4, v5, v6, n7, n8, bo9, bo10, k11⟩ := h0
  refine x_aload_n C dX12_jumps_0 rfl 0 rfl rfl ?_
  refine x_get C (ci := 11) (k := 15) 0 k11 rfl in_X12 (by decide) w_1133 rfl dX12_jumps_1 rfl ?_
  refine x_aload_n C dX12_jumps_4 rfl 0 rfl rfl ?_
  refine x_get C (ci := 11) (k := 11) 0 k11 rfl in_X12 (by decide) w_1129 rfl dX12_jumps_5 rfl ?_
  refine x_ldc C w_1340 dX12_jumps_8 rfl ?_
  refine x_iload_n C dX12_jumps_10 rfl 1 rfl rfl ?_
  refine x_imul C (v := 11534336) dX12_jumps_11 (by decide) rfl ?_
  refine x_aload_n C dX12_jumps_12 rfl 0 rfl rfl ?_
  refine x_get C (ci := 11) (k := 10) 0 k11 rfl in_X12 (by decide) w_1128 rfl dX12_jumps_13 rfl ?_
  refine x_iadd C (v := (nI (11534336 + cm))) dX12_jumps_16 (nI_add 11534336 cm) rfl ?_
  obtain ⟨w12, hw13⟩ : ∃ w : va_W, w = List.set ws 6 (iA E (a 6) 260 (upd fw wt (nI (11534336 + cm)))) := ⟨_, rfl⟩
  refine x_iask C wt (nI_clamp (by omega)) (nI_pos (by omega)) (by omega) 6 hfw hw13.symm dX12_jumps_17 rfl ?_
  have hW14 : WX (okM E a cd kf jn js jq) w12 := by rw [hw13]; exact hW.set (k := 6) rfl ⟨_, rfl⟩
  have k15 : w12[0]? = some (ob (a 0) 11 [.ref (a 1), .ref (a 2), .ref (a 3), .ref (a 4), .int (nI tp), .int (nI pl), .int (nI le), .int v1, .int nu, .int v2, .int (nI cm), .int (nI wt), .int (nI sm), .int (nI (cd.2.2.2.2.2)), .ref (a 5), .ref (a 6), .ref (a 7), .ref (a 8), .ref (a 9), .ref (a 10), .ref (a 11), .ref (a 12), .ref (a 13), .ref (a 14), .ref (a 15), .ref (a 16), .ref (a 17), .int (nI lm), .ref (a 18), .ref (a 19), .ref (a 20), .ref (a 21), .int v3, .int v4, .int v5, .int v6, .int (nI n7), .int (nI n8), .ref (a 22), .ref (a 23), .ref (a 24), .ref (a 25), .ref (a 26), .ref (a 27), .ref (a 28), .ref (a 29), .ref (a 30), .int kf]) := by rw [hw13]; exact set_ne k11 (by decide)
  have k16 : w12[5]? = some (iA E (a 5) 260 fs) := by rw [hw13]; exact set_ne hfs (by decide)
  have k17 : w12[6]? = some (iA E (a 6) 260 (upd fw wt (nI (11534336 + cm)))) := by rw [hw13]; exact set_eq hfw
  have kp18 := keeps_set kp0 hw13 (by first | exact rfl | decide | omega | (dsimp only; omega))
  refine x_aload_n C dX12_jumps_18 rfl 0 rfl rfl ?_
  refine x_aload_n C dX12_jumps_19 rfl 0 rfl rfl ?_
  refine x_get C (ci := 11) (k := 11) 0 k15 rfl in_X12 (by decide) w_1129 rfl dX12_jumps_20 rfl ?_
  refine x_iconst C (v := 1) dX12_jumps_23 (by decide) rfl ?_
  refine x_iadd C (v := (nI (wt + 1))) dX12_jumps_24 (nI_add wt 1) rfl ?_
  obtain ⟨w19, hw20⟩ : ∃ w : va_W, w = List.set w12 0 (ob (a 0) 11 [.ref (a 1), .ref (a 2), .ref (a 3), .ref (a 4), .int (nI tp), .int (nI pl), .int (nI le), .int v1, .int nu, .int v2, .int (nI cm), .int (nI (wt + 1)), .int (nI sm), .int (nI (cd.2.2.2.2.2)), .ref (a 5), .ref (a 6), .ref (a 7), .ref (a 8), .ref (a 9), .ref (a 10), .ref (a 11), .ref (a 12), .ref (a 13), .ref (a 14), .ref (a 15), .ref (a 16), .ref (a 17), .int (nI lm), .ref (a 18), .ref (a 19), .ref (a 20), .ref (a 21), .int v3, .int v4, .int v5, .int v6, .int (nI n7), .int (nI n8), .ref (a 22), .ref (a 23), .ref (a 24), .ref (a 25), .ref (a 26), .ref (a 27), .ref (a 28), .ref (a 29), .ref (a 30), .int kf]) := ⟨_, rfl⟩
  refine x_put C (ci := 11) (k := 11) (ty := .int) 0 k15 rfl in_X12 tyX12 tyX12_ok nmX12 (by decide) w_1129 rfl rfl rfl rfl (Nat.le_of_ble_eq_true rfl) hw20.symm dX12_jumps_25 rfl ?_
  have hW21 : WX (okM E a cd kf jn js jq) w19 := by rw [hw20]; exact hW14.set (k := 0) rfl ⟨tp, pl, le, v1, nu, v2, cm, (wt + 1), sm, lm, v3, v4, v5, v6, n7, n8, by omega, by omega, by omega, by omega, by omega, by omega, by omega, by omega, by omega, rfl⟩
  have k22 : w19[0]? = some (ob (a 0) 11 [.ref (a 1), .ref (a 2), .ref (a 3), .ref (a 4), .int (nI tp), .int (nI pl), .int (nI le), .int v1, .int nu, .int v2, .int (nI cm), .int (nI (wt + 1)), .int (nI sm), .int (nI (cd.2.2.2.2.2)), .ref (a 5), .ref (a 6), .ref (a 7), .ref (a 8), .ref (a 9), .ref (a 10), .ref (a 11), .ref (a 12), .ref (a 13), .ref (a 14), .ref (a 15), .ref (a 16), .ref (a 17), .int (nI lm), .ref (a 18), .ref (a 19), .ref (a 20), .ref (a 21), .int v3, .int v4, .int v5, .int v6, .int (nI n7), .int (nI n8), .ref (a 22), .ref (a 23), .ref (a 24), .ref (a 25), .ref (a 26), .ref (a 27), .ref (a 28), .ref (a 29), .ref (a 30), .int kf]) := by rw [hw20]; exact set_eq k15
  have k23 : w19[5]? = some (iA E (a 5) 260 fs) := by rw [hw20]; exact set_ne k16 (by decide)
  have k24 : w19[6]? = some (iA E (a 6) 260 (upd fw wt (nI (11534336 + cm)))) := by rw [hw20]; exact set_ne k17 (by decide)
  have kp25 := keeps_set kp18 hw20 (by first | exact rfl | decide | omega | (dsimp only; omega))
  refine x_aload_n C dX12_jumps_28 rfl 0 rfl rfl ?_
  refine x_iload_n C dX12_jumps_29 rfl 1 rfl rfl ?_
  refine x_iconst C (v := 0) dX12_jumps_30 (by decide) rfl ?_
  refine x_vv C (As := [.int 11, .int 0]) (rest := []) (m_notes E l a cd hG kf jn js jq w19 hW21 11 0 (by omega) (by omega) tp pl le cm (wt + 1) sm lm nu ⟨v1, v2, v3, v4, v5, v6, n7, n8, ⟨by omega, by omega, by omega, by omega, by omega, by omega, by omega⟩, ⟨by omega, by omega⟩, k22⟩ fs k23 (by omega)) mf_X12_notes w_1349 0 k22 rfl rfl rfl (Nat.le_of_ble_eq_true rfl) ⟨(Nat.le_of_ble_eq_true rfl), (Nat.le_of_ble_eq_true rfl)⟩ ⟨(Nat.le_of_ble_eq_true rfl), (Nat.le_of_ble_eq_true rfl)⟩ dX12_jumps_31 rfl (fun w28 h26 => ?_)
  obtain ⟨hW29, kq30, x31⟩ := h26
  have k32 : w28[6]? = some (iA E (a 6) 260 (upd fw wt (nI (11534336 + cm)))) := keeps_at kq30 k24 (by first | decide | omega | (dsimp only; omega))
  have kp33 := keeps_tr kp25 kq30 (fun q hq => by first | omega | (dsimp only at *; omega))
  obtain ⟨mo34, k35⟩ := x31
  obtain ⟨v36, v37, v38, v39, v40, v41, n42, n43, bo44, bo45, k46⟩ := mo34
  refine x_aload_n C dX12_jumps_34 rfl 0 rfl rfl ?_
  refine x_aload_n C dX12_jumps_35 rfl 0 rfl rfl ?_
  refine x_get C (ci := 11) (k := 5) 0 k46 rfl in_X12 (by decide) w_1123 rfl dX12_jumps_36 rfl ?_
  refine x_iconst C (v := 1) dX12_jumps_39 (by decide) rfl ?_
  refine x_iadd C (v := (nI (pl + 1))) dX12_jumps_40 (nI_add pl 1) rfl ?_
  obtain ⟨w47, hw48⟩ : ∃ w : va_W, w = List.set w28 0 (ob (a 0) 11 [.ref (a 1), .ref (a 2), .ref (a 3), .ref (a 4), .int (nI tp), .int (nI (pl + 1)), .int (nI le), .int v36, .int nu, .int v37, .int (nI (cm + 1)), .int (nI (wt + 1)), .int (nI sm), .int (nI (cd.2.2.2.2.2)), .ref (a 5), .ref (a 6), .ref (a 7), .ref (a 8), .ref (a 9), .ref (a 10), .ref (a 11), .ref (a 12), .ref (a 13), .ref (a 14), .ref (a 15), .ref (a 16), .ref (a 17), .int (nI lm), .ref (a 18), .ref (a 19), .ref (a 20), .ref (a 21), .int v38, .int v39, .int v40, .int v41, .int (nI n42), .int (nI n43), .ref (a 22), .ref (a 23), .ref (a 24), .ref (a 25), .ref (a 26), .ref (a 27), .ref (a 28), .ref (a 29), .ref (a 30), .int kf]) := ⟨_, rfl⟩
  refine x_put C (ci := 11) (k := 5) (ty := .int) 0 k46 rfl in_X12 tyX12 tyX12_ok nmX12 (by decide) w_1123 rfl rfl rfl rfl (Nat.le_of_ble_eq_true rfl) hw48.symm dX12_jumps_41 rfl ?_
  have hW49 : WX (okM E a cd kf jn js jq) w47 := by rw [hw48]; exact hW29.set (k := 0) rfl ⟨tp, (pl + 1), le, v36, nu, v37, (cm + 1), ((wt + 1)), sm, lm, v38, v39, v40, v41, n42, n43, by omega, by omega, by omega, by omega, by omega, by omega, by omega, by omega, by omega, rfl⟩
  have k50 : w47[6]? = some (iA E (a 6) 260 (upd fw wt (nI (11534336 + cm)))) := by rw [hw48]; exact set_ne k32 (by decide)
  have k51 : w47[0]? = some (ob (a 0) 11 [.ref (a 1), .ref (a 2), .ref (a 3), .ref (a 4), .int (nI tp), .int (nI (pl + 1)), .int (nI le), .int v36, .int nu, .int v37, .int (nI (cm + 1)), .int (nI (wt + 1)), .int (nI sm), .int (nI (cd.2.2.2.2.2)), .ref (a 5), .ref (a 6), .ref (a 7), .ref (a 8), .ref (a 9), .ref (a 10), .ref (a 11), .ref (a 12), .ref (a 13), .ref (a 14), .ref (a 15), .ref (a 16), .ref (a 17), .int (nI lm), .ref (a 18), .ref (a 19), .ref (a 20), .ref (a 21), .int v38, .int v39, .int v40, .int v41, .int (nI n42), .int (nI n43), .ref (a 22), .ref (a 23), .ref (a 24), .ref (a 25), .ref (a 26), .ref (a 27), .ref (a 28), .ref (a 29), .ref (a 30), .int kf]) := by rw [hw48]; exact set_eq k46
  have k52 : w47[5]? = some (iA E (a 5) 260 (upd fs cm (nI (1048576 * 11 + 0)))) := by rw [hw48]; exact set_ne k35 (by decide)
  have kp53 := keeps_set kp33 hw48 (by first | exact rfl | decide | omega | (dsimp only; omega))
  exact x_vret C hr hlk dX12_jumps_44 ⟨hW49, kp53, ⟨⟨v36, v37, v38, v39, v40, v41, n42, n43, ⟨by omega, by omega, by omega, by omega, by omega, by omega, by omega⟩, ⟨by omega, by omega⟩, k51⟩, k52, k50⟩⟩
set_option maxRecDepth 20000 in
set_option maxHeartbeats 4000000 in
theorem m_jumps12 (E : xE) (l : Launch) (a : Nat → Nat) (cd : Cd) (hG : Good cd) (kf : Int32) (jn js jq : Lb) (ws : va_W) (hW : WX (okM E a cd kf jn js jq) ws) (tp pl le cm wt sm lm : Nat) (nu : Int32) (h0 : MO a cd kf ws tp pl le cm wt sm lm nu) (fs : Nat → Int32) (hfs : ws[5]? = some (iA E (a 5) 260 fs)) (fw : Nat → Int32) (hfw : ws[6]? = some (iA E (a 6) 260 fw)) (hwt : wt ≤ 259) (hcm : cm ≤ 259) (hpl : pl ≤ 239) : xV E l yX12_jumps cX12_jumps 2 1 0 0 [.ref (a 0), .int 12] ws (fun w => WX (okM E a cd kf jn js jq) w ∧ keeps ws w (fun q => q = 0 ∨ q = 5 ∨ q = 6) ∧ (MO a cd kf w tp (pl + 1) le (cm + 1) (wt + 1) sm lm nu ∧ w[5]? = some (iA E (a 5) 260 (upd fs cm (nI (1048576 * 12 + 0)))) ∧ w[6]? = some (iA E (a 6) 260 (upd fw wt (nI (1048576 * 12 + cm)))))) := by
  refine xV_start (lv := [(0, .ref (a 0)), (1, .int 12)]) RX12 (by decide) rfl (Nat.le_of_ble_eq_true rfl) rfl (fun p e s m below meth c A C hr hlk hin => ?_)
  have kp0 : keeps ws ws (fun q => q = 0 ∨ q = 5 ∨ q = 6) := keeps_rf
  obtain ⟨v1, v2, v3, v4, v5, v6, n7, n8, bo9, bo10, k11⟩ := h0
  refine x_aload_n C dX12_jumps_0 rfl 0 rfl rfl ?_
  refine x_get C (ci := 11) (k := 15) 0 k11 rfl in_X12 (by decide) w_1133 rfl dX12_jumps_1 rfl ?_
  refine x_aload_n C dX12_jumps_4 rfl 0 rfl rfl ?_
  refine x_get C (ci := 11) (k := 11) 0 k11 rfl in_X12 (by decide) w_1129 rfl dX12_jumps_5 rfl ?_
  refine x_ldc C w_1340 dX12_jumps_8 rfl ?_
  refine x_iload_n C dX12_jumps_10 rfl 1 rfl rfl ?_
  refine x_imul C (v := 12582912) dX12_jumps_11 (by decide) rfl ?_
  refine x_aload_n C dX12_jumps_12 rfl 0 rfl rfl ?_
  refine x_get C (ci := 11) (k := 10) 0 k11 rfl in_X12 (by decide) w_1128 rfl dX12_jumps_13 rfl ?_
  refine x_iadd C (v := (nI (12582912 + cm))) dX12_jumps_16 (nI_add 12582912 cm) rfl ?_
  obtain ⟨w12, hw13⟩ : ∃ w : va_W, w = List.set ws 6 (iA E (a 6) 260 (upd fw wt (nI (12582912 + cm)))) := ⟨_, rfl⟩
  refine x_iask C wt (nI_clamp (by omega)) (nI_pos (by omega)) (by omega) 6 hfw hw13.symm dX12_jumps_17 rfl ?_
  have hW14 : WX (okM E a cd kf jn js jq) w12 := by rw [hw13]; exact hW.set (k := 6) rfl ⟨_, rfl⟩
  have k15 : w12[0]? = some (ob (a 0) 11 [.ref (a 1), .ref (a 2), .ref (a 3), .ref (a 4), .int (nI tp), .int (nI pl), .int (nI le), .int v1, .int nu, .int v2, .int (nI cm), .int (nI wt), .int (nI sm), .int (nI (cd.2.2.2.2.2)), .ref (a 5), .ref (a 6), .ref (a 7), .ref (a 8), .ref (a 9), .ref (a 10), .ref (a 11), .ref (a 12), .ref (a 13), .ref (a 14), .ref (a 15), .ref (a 16), .ref (a 17), .int (nI lm), .ref (a 18), .ref (a 19), .ref (a 20), .ref (a 21), .int v3, .int v4, .int v5, .int v6, .int (nI n7), .int (nI n8), .ref (a 22), .ref (a 23), .ref (a 24), .ref (a 25), .ref (a 26), .ref (a 27), .ref (a 28), .ref (a 29), .ref (a 30), .int kf]) := by rw [hw13]; exact set_ne k11 (by decide)
  have k16 : w12[5]? = some (iA E (a 5) 260 fs) := by rw [hw13]; exact set_ne hfs (by decide)
  have k17 : w12[6]? = some (iA E (a 6) 260 (upd fw wt (nI (12582912 + cm)))) := by rw [hw13]; exact set_eq hfw
  have kp18 := keeps_set kp0 hw13 (by first | exact rfl | decide | omega | (dsimp only; omega))
  refine x_aload_n C dX12_jumps_18 rfl 0 rfl rfl ?_
  refine x_aload_n C dX12_jumps_19 rfl 0 rfl rfl ?_
  refine x_get C (ci := 11) (k := 11) 0 k15 rfl in_X12 (by decide) w_1129 rfl dX12_jumps_20 rfl ?_
  refine x_iconst C (v := 1) dX12_jumps_23 (by decide) rfl ?_
  refine x_iadd C (v := (nI (wt + 1))) dX12_jumps_24 (nI_add wt 1) rfl ?_
  obtain ⟨w19, hw20⟩ : ∃ w : va_W, w = List.set w12 0 (ob (a 0) 11 [.ref (a 1), .ref (a 2), .ref (a 3), .ref (a 4), .int (nI tp), .int (nI pl), .int (nI le), .int v1, .int nu, .int v2, .int (nI cm), .int (nI (wt + 1)), .int (nI sm), .int (nI (cd.2.2.2.2.2)), .ref (a 5), .ref (a 6), .ref (a 7), .ref (a 8), .ref (a 9), .ref (a 10), .ref (a 11), .ref (a 12), .ref (a 13), .ref (a 14), .ref (a 15), .ref (a 16), .ref (a 17), .int (nI lm), .ref (a 18), .ref (a 19), .ref (a 20), .ref (a 21), .int v3, .int v4, .int v5, .int v6, .int (nI n7), .int (nI n8), .ref (a 22), .ref (a 23), .ref (a 24), .ref (a 25), .ref (a 26), .ref (a 27), .ref (a 28), .ref (a 29), .ref (a 30), .int kf]) := ⟨_, rfl⟩
  refine x_put C (ci := 11) (k := 11) (ty := .int) 0 k15 rfl in_X12 tyX12 tyX12_ok nmX12 (by decide) w_1129 rfl rfl rfl rfl (Nat.le_of_ble_eq_true rfl) hw20.symm dX12_jumps_25 rfl ?_
  have hW21 : WX (okM E a cd kf jn js jq) w19 := by rw [hw20]; exact hW14.set (k := 0) rfl ⟨tp, pl, le, v1, nu, v2, cm, (wt + 1), sm, lm, v3, v4, v5, v6, n7, n8, by omega, by omega, by omega, by omega, by omega, by omega, by omega, by omega, by omega, rfl⟩
  have k22 : w19[0]? = some (ob (a 0) 11 [.ref (a 1), .ref (a 2), .ref (a 3), .ref (a 4), .int (nI tp), .int (nI pl), .int (nI le), .int v1, .int nu, .int v2, .int (nI cm), .int (nI (wt + 1)), .int (nI sm), .int (nI (cd.2.2.2.2.2)), .ref (a 5), .ref (a 6), .ref (a 7), .ref (a 8), .ref (a 9), .ref (a 10), .ref (a 11), .ref (a 12), .ref (a 13), .ref (a 14), .ref (a 15), .ref (a 16), .ref (a 17), .int (nI lm), .ref (a 18), .ref (a 19), .ref (a 20), .ref (a 21), .int v3, .int v4, .int v5, .int v6, .int (nI n7), .int (nI n8), .ref (a 22), .ref (a 23), .ref (a 24), .ref (a 25), .ref (a 26), .ref (a 27), .ref (a 28), .ref (a 29), .ref (a 30), .int kf]) := by rw [hw20]; exact set_eq k15
  have k23 : w19[5]? = some (iA E (a 5) 260 fs) := by rw [hw20]; exact set_ne k16 (by decide)
  have k24 : w19[6]? = some (iA E (a 6) 260 (upd fw wt (nI (12582912 + cm)))) := by rw [hw20]; exact set_ne k17 (by decide)
  have kp25 := keeps_set kp18 hw20 (by first | exact rfl | decide | omega | (dsimp only; omega))
  refine x_aload_n C dX12_jumps_28 rfl 0 rfl rfl ?_
  refine x_iload_n C dX12_jumps_29 rfl 1 rfl rfl ?_
  refine x_iconst C (v := 0) dX12_jumps_30 (by decide) rfl ?_
  refine x_vv C (As := [.int 12, .int 0]) (rest := []) (m_notes E l a cd hG kf jn js jq w19 hW21 12 0 (by omega) (by omega) tp pl le cm (wt + 1) sm lm nu ⟨v1, v2, v3, v4, v5, v6, n7, n8, ⟨by omega, by omega, by omega, by omega, by omega, by omega, by omega⟩, ⟨by omega, by omega⟩, k22⟩ fs k23 (by omega)) mf_X12_notes w_1349 0 k22 rfl rfl rfl (Nat.le_of_ble_eq_true rfl) ⟨(Nat.le_of_ble_eq_true rfl), (Nat.le_of_ble_eq_true rfl)⟩ ⟨(Nat.le_of_ble_eq_true rfl), (Nat.le_of_ble_eq_true rfl)⟩ dX12_jumps_31 rfl (fun w28 h26 => ?_)
  obtain ⟨hW29, kq30, x31⟩ := h26
  have k32 : w28[6]? = some (iA E (a 6) 260 (upd fw wt (nI (12582912 + cm)))) := keeps_at kq30 k24 (by first | decide | omega | (dsimp only; omega))
  have kp33 := keeps_tr kp25 kq30 (fun q hq => by first | omega | (dsimp only at *; omega))
  obtain ⟨mo34, k35⟩ := x31
  obtain ⟨v36, v37, v38, v39, v40, v41, n42, n43, bo44, bo45, k46⟩ := mo34
  refine x_aload_n C dX12_jumps_34 rfl 0 rfl rfl ?_
  refine x_aload_n C dX12_jumps_35 rfl 0 rfl rfl ?_
  refine x_get C (ci := 11) (k := 5) 0 k46 rfl in_X12 (by decide) w_1123 rfl dX12_jumps_36 rfl ?_
  refine x_iconst C (v := 1) dX12_jumps_39 (by decide) rfl ?_
  refine x_iadd C (v := (nI (pl + 1))) dX12_jumps_40 (nI_add pl 1) rfl ?_
  obtain ⟨w47, hw48⟩ : ∃ w : va_W, w = List.set w28 0 (ob (a 0) 11 [.ref (a 1), .ref (a 2), .ref (a 3), .ref (a 4), .int (nI tp), .int (nI (pl + 1)), .int (nI le), .int v36, .int nu, .int v37, .int (nI (cm + 1)), .int (nI (wt + 1)), .int (nI sm), .int (nI (cd.2.2.2.2.2)), .ref (a 5), .ref (a 6), .ref (a 7), .ref (a 8), .ref (a 9), .ref (a 10), .ref (a 11), .ref (a 12), .ref (a 13), .ref (a 14), .ref (a 15), .ref (a 16), .ref (a 17), .int (nI lm), .ref (a 18), .ref (a 19), .ref (a 20), .ref (a 21), .int v38, .int v39, .int v40, .int v41, .int (nI n42), .int (nI n43), .ref (a 22), .ref (a 23), .ref (a 24), .ref (a 25), .ref (a 26), .ref (a 27), .ref (a 28), .ref (a 29), .ref (a 30), .int kf]) := ⟨_, rfl⟩
  refine x_put C (ci := 11) (k := 5) (ty := .int) 0 k46 rfl in_X12 tyX12 tyX12_ok nmX12 (by decide) w_1123 rfl rfl rfl rfl (Nat.le_of_ble_eq_true rfl) hw48.symm dX12_jumps_41 rfl ?_
  have hW49 : WX (okM E a cd kf jn js jq) w47 := by rw [hw48]; exact hW29.set (k := 0) rfl ⟨tp, (pl + 1), le, v36, nu, v37, (cm + 1), ((wt + 1)), sm, lm, v38, v39, v40, v41, n42, n43, by omega, by omega, by omega, by omega, by omega, by omega, by omega, by omega, by omega, rfl⟩
  have k50 : w47[6]? = some (iA E (a 6) 260 (upd fw wt (nI (12582912 + cm)))) := by rw [hw48]; exact set_ne k32 (by decide)
  have k51 : w47[0]? = some (ob (a 0) 11 [.ref (a 1), .ref (a 2), .ref (a 3), .ref (a 4), .int (nI tp), .int (nI (pl + 1)), .int (nI le), .int v36, .int nu, .int v37, .int (nI (cm + 1)), .int (nI (wt + 1)), .int (nI sm), .int (nI (cd.2.2.2.2.2)), .ref (a 5), .ref (a 6), .ref (a 7), .ref (a 8), .ref (a 9), .ref (a 10), .ref (a 11), .ref (a 12), .ref (a 13), .ref (a 14), .ref (a 15), .ref (a 16), .ref (a 17), .int (nI lm), .ref (a 18), .ref (a 19), .ref (a 20), .ref (a 21), .int v38, .int v39, .int v40, .int v41, .int (nI n42), .int (nI n43), .ref (a 22), .ref (a 23), .ref (a 24), .ref (a 25), .ref (a 26), .ref (a 27), .ref (a 28), .ref (a 29), .ref (a 30), .int kf]) := by rw [hw48]; exact set_eq k46
  have k52 : w47[5]? = some (iA E (a 5) 260 (upd fs cm (nI (1048576 * 12 + 0)))) := by rw [hw48]; exact set_ne k35 (by decide)
  have kp53 := keeps_set kp33 hw48 (by first | exact rfl | decide | omega | (dsimp only; omega))
  exact x_vret C hr hlk dX12_jumps_44 ⟨hW49, kp53, ⟨⟨v36, v37, v38, v39, v40, v41, n42, n43, ⟨by omega, by omega, by omega, by omega, by omega, by omega, by omega⟩, ⟨by omega, by omega⟩, k51⟩, k52, k50⟩⟩
theorem dX12_readsCompared_0 : decode cX12_readsCompared 0 = .ok (.aload_n 0, 1) := by decide +kernel
theorem dX12_readsCompared_1 : decode cX12_readsCompared 1 = .ok (.invokevirtual 193, 3) := by decide +kernel
theorem dX12_readsCompared_4 : decode cX12_readsCompared 4 = .ok (.ifCond .ne 5, 3) := by decide +kernel
theorem dX12_readsCompared_7 : decode cX12_readsCompared 7 = .ok (.iconst 0, 1) := by decide +kernel
theorem dX12_readsCompared_8 : decode cX12_readsCompared 8 = .ok (.ireturn, 1) := by decide +kernel
theorem dX12_readsCompared_9 : decode cX12_readsCompared 9 = .ok (.aload_n 0, 1) := by decide +kernel
theorem dX12_readsCompared_10 : decode cX12_readsCompared 10 = .ok (.invokevirtual 137, 3) := by decide +kernel
theorem dX12_readsCompared_13 : decode cX12_readsCompared 13 = .ok (.bipush 60, 2) := by decide +kernel
theorem dX12_readsCompared_15 : decode cX12_readsCompared 15 = .ok (.if_icmp .ne 8, 3) := by decide +kernel
theorem dX12_readsCompared_18 : decode cX12_readsCompared 18 = .ok (.bipush 7, 2) := by decide +kernel
theorem dX12_readsCompared_20 : decode cX12_readsCompared 20 = .ok (.goto 32, 3) := by decide +kernel
theorem dX12_readsCompared_23 : decode cX12_readsCompared 23 = .ok (.aload_n 0, 1) := by decide +kernel
theorem dX12_readsCompared_24 : decode cX12_readsCompared 24 = .ok (.invokevirtual 137, 3) := by decide +kernel
theorem dX12_readsCompared_27 : decode cX12_readsCompared 27 = .ok (.bipush 62, 2) := by decide +kernel
theorem dX12_readsCompared_29 : decode cX12_readsCompared 29 = .ok (.if_icmp .ne 8, 3) := by decide +kernel
theorem dX12_readsCompared_32 : decode cX12_readsCompared 32 = .ok (.bipush 8, 2) := by decide +kernel
theorem dX12_readsCompared_34 : decode cX12_readsCompared 34 = .ok (.goto 18, 3) := by decide +kernel
theorem dX12_readsCompared_37 : decode cX12_readsCompared 37 = .ok (.aload_n 0, 1) := by decide +kernel
theorem dX12_readsCompared_38 : decode cX12_readsCompared 38 = .ok (.invokevirtual 137, 3) := by decide +kernel
theorem dX12_readsCompared_41 : decode cX12_readsCompared 41 = .ok (.bipush 61, 2) := by decide +kernel
theorem dX12_readsCompared_43 : decode cX12_readsCompared 43 = .ok (.if_icmp .ne 8, 3) := by decide +kernel
theorem dX12_readsCompared_46 : decode cX12_readsCompared 46 = .ok (.bipush 9, 2) := by decide +kernel
theorem dX12_readsCompared_48 : decode cX12_readsCompared 48 = .ok (.goto 4, 3) := by decide +kernel
theorem dX12_readsCompared_51 : decode cX12_readsCompared 51 = .ok (.iconst (-1), 1) := by decide +kernel
theorem dX12_readsCompared_52 : decode cX12_readsCompared 52 = .ok (.istore_n 1, 1) := by decide +kernel
theorem dX12_readsCompared_53 : decode cX12_readsCompared 53 = .ok (.iload_n 1, 1) := by decide +kernel
theorem dX12_readsCompared_54 : decode cX12_readsCompared 54 = .ok (.iconst (-1), 1) := by decide +kernel
theorem dX12_readsCompared_55 : decode cX12_readsCompared 55 = .ok (.if_icmp .ne 13, 3) := by decide +kernel
theorem dX12_readsCompared_58 : decode cX12_readsCompared 58 = .ok (.aload_n 0, 1) := by decide +kernel
theorem dX12_readsCompared_59 : decode cX12_readsCompared 59 = .ok (.iconst 1, 1) := by decide +kernel
theorem dX12_readsCompared_60 : decode cX12_readsCompared 60 = .ok (.aload_n 0, 1) := by decide +kernel
theorem dX12_readsCompared_61 : decode cX12_readsCompared 61 = .ok (.getfield 131, 3) := by decide +kernel
theorem dX12_readsCompared_64 : decode cX12_readsCompared 64 = .ok (.invokevirtual 144, 3) := by decide +kernel
theorem dX12_readsCompared_67 : decode cX12_readsCompared 67 = .ok (.ireturn, 1) := by decide +kernel
theorem dX12_readsCompared_68 : decode cX12_readsCompared 68 = .ok (.aload_n 0, 1) := by decide +kernel
theorem dX12_readsCompared_69 : decode cX12_readsCompared 69 = .ok (.aload_n 0, 1) := by decide +kernel
theorem dX12_readsCompared_70 : decode cX12_readsCompared 70 = .ok (.getfield 131, 3) := by decide +kernel
theorem dX12_readsCompared_73 : decode cX12_readsCompared 73 = .ok (.iconst 1, 1) := by decide +kernel
theorem dX12_readsCompared_74 : decode cX12_readsCompared 74 = .ok (.iadd, 1) := by decide +kernel
theorem dX12_readsCompared_75 : decode cX12_readsCompared 75 = .ok (.putfield 131, 3) := by decide +kernel
theorem dX12_readsCompared_78 : decode cX12_readsCompared 78 = .ok (.aload_n 0, 1) := by decide +kernel
theorem dX12_readsCompared_79 : decode cX12_readsCompared 79 = .ok (.invokevirtual 193, 3) := by decide +kernel
theorem dX12_readsCompared_82 : decode cX12_readsCompared 82 = .ok (.ifCond .ne 5, 3) := by decide +kernel
theorem dX12_readsCompared_85 : decode cX12_readsCompared 85 = .ok (.iconst 0, 1) := by decide +kernel
theorem dX12_readsCompared_86 : decode cX12_readsCompared 86 = .ok (.ireturn, 1) := by decide +kernel
theorem dX12_readsCompared_87 : decode cX12_readsCompared 87 = .ok (.aload_n 0, 1) := by decide +kernel
theorem dX12_readsCompared_88 : decode cX12_readsCompared 88 = .ok (.iload_n 1, 1) := by decide +kernel
theorem dX12_readsCompared_89 : decode cX12_readsCompared 89 = .ok (.iconst 0, 1) := by decide +kernel
theorem dX12_readsCompared_90 : decode cX12_readsCompared 90 = .ok (.invokevirtual 167, 3) := by decide +kernel
theorem dX12_readsCompared_93 : decode cX12_readsCompared 93 = .ok (.aload_n 0, 1) := by decide +kernel
theorem dX12_readsCompared_94 : decode cX12_readsCompared 94 = .ok (.invokevirtual 196, 3) := by decide +kernel
theorem dX12_readsCompared_97 : decode cX12_readsCompared 97 = .ok (.iconst 1, 1) := by decide +kernel
theorem dX12_readsCompared_98 : decode cX12_readsCompared 98 = .ok (.ireturn, 1) := by decide +kernel
set_option maxRecDepth 20000 in
set_option maxHeartbeats 4000000 in
theorem m_readsCompared (E : xE) (l : Launch) (a : Nat → Nat) (cd : Cd) (hG : Good cd) (kf : Int32) (jn js jq : Lb) (ws : va_W) (hW : WX (okM E a cd kf jn js jq) ws) (tp pl le cm wt sm lm : Nat) (nu : Int32) (h0 : MO a cd kf ws tp pl le cm wt sm lm nu) (tf : Nat → Int32) (htf : ws[4]? = some (bA E (a 4) 260 tf)) (hpl : pl ≤ le) (fs : Nat → Int32) (hfs : ws[5]? = some (iA E (a 5) 260 fs)) (fw : Nat → Int32) (hfw : ws[6]? = some (iA E (a 6) 260 fw)) (W : WL) (hwr : wR fw W wt) (c0 : Nat) (hci : CI fs c0 cm 0 W) (hco : cOps W) (hbo : bot W) (hphi : cm + wgt W ≤ pl) (hwp : wt ≤ pl) : xI E l yX12_readsCompared cX12_readsCompared 2 (some .boolean) 5 [.ref (a 0)] ws (fun r w => WX (okM E a cd kf jn js jq) w ∧ keeps ws w (fun q => q = 0 ∨ q = 5 ∨ q = 6) ∧ zb r ∧ ((r = 0 ∧ RF E a cd kf w tp le sm lm) ∨ (r = 1 ∧ ∃ (pl2 cm2 wt2 : Nat) (fs2 fw2 : Nat → Int32) (We : WL), pl < pl2 ∧ pl2 ≤ le ∧ wR fw2 We wt2 ∧ wt2 ≤ wt ∧ RS E a cd kf w tp pl2 le cm2 wt2 sm lm fs2 fw2 ∧ CI fs2 c0 cm2 1 We ∧ cOps We ∧ bot We ∧ cm2 + wgt We ≤ pl2 ∧ ∀ k, k < c0 → fs2 k = fs k))) := by
  refine xI_start (lv := [(0, .ref (a 0))]) RX12 (by decide) rfl (Nat.le_of_ble_eq_true rfl) rfl (fun p e s m below meth c A C hr hlk => ?_)
  have kp0 : keeps ws ws (fun q => q = 0 ∨ q = 5 ∨ q = 6) := keeps_rf
  obtain ⟨v1, v2, v3, v4, v5, v6, n7, n8, bo9, bo10, k11⟩ := h0
  refine x_aload_n C dX12_readsCompared_0 rfl 0 rfl rfl ?_
  refine x_vi C (As := []) (rest := []) (m_readsSum E l a cd hG kf jn js jq ws hW tp pl le cm wt sm lm nu ⟨v1, v2, v3, v4, v5, v6, n7, n8, ⟨by omega, by omega, by omega, by omega, by omega, by omega, by omega⟩, ⟨by omega, by omega⟩, k11⟩ tf htf (by omega) fs hfs fw hfw W hwr (cOps_n hco) c0 0 hci (by omega) 0 (by omega) (by omega)) mf_X12_readsSum w_1328 0 k11 rfl rfl rfl (Nat.le_of_ble_eq_true rfl) ⟨(Nat.le_of_ble_eq_true rfl), (Nat.le_of_ble_eq_true rfl)⟩ ⟨(Nat.le_of_ble_eq_true rfl), (Nat.le_of_ble_eq_true rfl)⟩ dX12_readsCompared_1 rfl (fun r13 w14 h12 => ?_)
  obtain ⟨hW15, kq16, zb17, x18⟩ := h12
  have k19 : w14[4]? = some (bA E (a 4) 260 tf) := keeps_at kq16 htf (by first | decide | omega | (dsimp only; omega))
  have kp20 := keeps_tr kp0 kq16 (fun q hq => by first | omega | (dsimp only at *; omega))
  rcases x18 with ⟨e21, rf22⟩ | ⟨e23, pl24, cm25, fs26, fw27, hs28, hs29, hs30, hs31, hs32, hs33, hs34⟩
  · refine x_top e21 ?_
    obtain ⟨pl35, cm36, wt37, fs38, fw39, rs40⟩ := rf22
    obtain ⟨⟨nu41, mo42⟩, k43, k44⟩ := rs40
    obtain ⟨v45, v46, v47, v48, v49, v50, n51, n52, bo53, bo54, k55⟩ := mo42
    refine x_if_ne C (tgt := 9) dX12_readsCompared_4 (by decide) rfl (fun h => absurd h (by decide)) (fun _ => ?_)
    refine x_iconst C (v := 0) dX12_readsCompared_7 (by decide) rfl ?_
    exact x_zret C hr hlk rfl dX12_readsCompared_8 ⟨hW15, kp20, (Or.inl rfl), (Or.inl ⟨rfl, ⟨pl35, cm36, wt37, _, _, ⟨⟨_, ⟨v45, v46, v47, v48, v49, v50, n51, n52, ⟨by omega, by omega, by omega, by omega, by omega, by omega, by omega⟩, ⟨by omega, by omega⟩, k55⟩⟩, k43, k44⟩⟩⟩)⟩
  · refine x_top e23 ?_
    obtain ⟨⟨nu56, mo57⟩, k58, k59⟩ := hs31
    obtain ⟨v60, v61, v62, v63, v64, v65, n66, n67, bo68, bo69, k70⟩ := mo57
    refine x_if_ne C (tgt := 9) dX12_readsCompared_4 (by decide) rfl (fun _ => ?_) (fun h => absurd h (by decide))
    refine x_aload_n C dX12_readsCompared_9 rfl 0 rfl rfl ?_
    refine x_vi C (As := []) (rest := []) (m_here E l a cd hG kf jn js jq w14 hW15 tp pl24 le cm25 wt sm lm nu56 ⟨v60, v61, v62, v63, v64, v65, n66, n67, ⟨by omega, by omega, by omega, by omega, by omega, by omega, by omega⟩, ⟨by omega, by omega⟩, k70⟩ tf k19) mf_X12_here w_1317 0 k70 rfl rfl rfl (Nat.le_of_ble_eq_true rfl) ⟨(Nat.le_of_ble_eq_true rfl), (Nat.le_of_ble_eq_true rfl)⟩ ⟨(Nat.le_of_ble_eq_true rfl), (Nat.le_of_ble_eq_true rfl)⟩ dX12_readsCompared_10 rfl (fun r72 w73 h71 => ?_)
    obtain ⟨hW74, x75⟩ := h71
    refine x_ws hW74 ?_
    refine x_bipush C (v := 60) dX12_readsCompared_13 (by decide) rfl ?_
    refine x_icmp_ne C (tgt := 23) dX12_readsCompared_15 (by decide) rfl (fun c76 => ?_) (fun c76 => ?_)
    · skip
      refine x_aload_n C dX12_readsCompared_23 rfl 0 rfl rfl ?_
      refine x_vi C (As := []) (rest := []) (m_here E l a cd hG kf jn js jq w14 hW15 tp pl24 le cm25 wt sm lm nu56 ⟨v60, v61, v62, v63, v64, v65, n66, n67, ⟨by omega, by omega, by omega, by omega, by omega, by omega, by omega⟩, ⟨by omega, by omega⟩, k70⟩ tf k19) mf_X12_here w_1317 0 k70 rfl rfl rfl (Nat.le_of_ble_eq_true rfl) ⟨(Nat.le_of_ble_eq_true rfl), (Nat.le_of_ble_eq_true rfl)⟩ ⟨(Nat.le_of_ble_eq_true rfl), (Nat.le_of_ble_eq_true rfl)⟩ dX12_readsCompared_24 rfl (fun r78 w79 h77 => ?_)
      obtain ⟨hW80, x81⟩ := h77
      refine x_ws hW80 ?_
      refine x_bipush C (v := 62) dX12_readsCompared_27 (by decide) rfl ?_
      refine x_icmp_ne C (tgt := 37) dX12_readsCompared_29 (by decide) rfl (fun c82 => ?_) (fun c82 => ?_)
      · skip
        refine x_aload_n C dX12_readsCompared_37 rfl 0 rfl rfl ?_
        refine x_vi C (As := []) (rest := []) (m_here E l a cd hG kf jn js jq w14 hW15 tp pl24 le cm25 wt sm lm nu56 ⟨v60, v61, v62, v63, v64, v65, n66, n67, ⟨by omega, by omega, by omega, by omega, by omega, by omega, by omega⟩, ⟨by omega, by omega⟩, k70⟩ tf k19) mf_X12_here w_1317 0 k70 rfl rfl rfl (Nat.le_of_ble_eq_true rfl) ⟨(Nat.le_of_ble_eq_true rfl), (Nat.le_of_ble_eq_true rfl)⟩ ⟨(Nat.le_of_ble_eq_true rfl), (Nat.le_of_ble_eq_true rfl)⟩ dX12_readsCompared_38 rfl (fun r84 w85 h83 => ?_)
        obtain ⟨hW86, x87⟩ := h83
        refine x_ws hW86 ?_
        refine x_bipush C (v := 61) dX12_readsCompared_41 (by decide) rfl ?_
        refine x_icmp_ne C (tgt := 51) dX12_readsCompared_43 (by decide) rfl (fun c88 => ?_) (fun c88 => ?_)
        · skip
          refine x_iconst C (v := (-1)) dX12_readsCompared_51 (by decide) rfl ?_
          refine x_istore_n C (lv' := [(1, .int (-1)), (0, .ref (a 0))]) dX12_readsCompared_52 rfl (by decide) rfl rfl ?_
          refine x_iload_n C dX12_readsCompared_53 rfl 0 rfl rfl ?_
          refine x_iconst C (v := (-1)) dX12_readsCompared_54 (by decide) rfl ?_
          refine x_icmp_ne C (tgt := 68) dX12_readsCompared_55 (by decide) rfl (fun h => absurd h (by decide)) (fun _ => ?_)
          refine x_aload_n C dX12_readsCompared_58 rfl 1 rfl rfl ?_
          refine x_iconst C (v := 1) dX12_readsCompared_59 (by decide) rfl ?_
          refine x_aload_n C dX12_readsCompared_60 rfl 1 rfl rfl ?_
          refine x_get C (ci := 11) (k := 5) 0 k70 rfl in_X12 (by decide) w_1123 rfl dX12_readsCompared_61 rfl ?_
          refine x_vi C (As := [.int 1, .int (nI pl24)]) (rest := []) (m_wrongAt E l a cd hG kf jn js jq w14 hW15 (1 : Int32) ((nI pl24)) tp pl24 le cm25 wt sm lm nu56 ⟨v60, v61, v62, v63, v64, v65, n66, n67, ⟨by omega, by omega, by omega, by omega, by omega, by omega, by omega⟩, ⟨by omega, by omega⟩, k70⟩) mf_X12_wrongAt w_1324 0 k70 rfl rfl rfl (Nat.le_of_ble_eq_true rfl) ⟨(Nat.le_of_ble_eq_true rfl), (Nat.le_of_ble_eq_true rfl)⟩ ⟨(Nat.le_of_ble_eq_true rfl), (Nat.le_of_ble_eq_true rfl)⟩ dX12_readsCompared_64 rfl (fun r90 w91 h89 => ?_)
          obtain ⟨hW92, kq93, e94, x95⟩ := h89
          refine x_top e94 ?_
          have k96 : w91[4]? = some (bA E (a 4) 260 tf) := keeps_at kq93 k19 (by first | decide | omega | (dsimp only; omega))
          have k97 : w91[5]? = some (iA E (a 5) 260 fs26) := keeps_at kq93 k58 (by first | decide | omega | (dsimp only; omega))
          have k98 : w91[6]? = some (iA E (a 6) 260 fw27) := keeps_at kq93 k59 (by first | decide | omega | (dsimp only; omega))
          have kp99 := keeps_tr kp20 kq93 (fun q hq => by first | omega | (dsimp only at *; omega))
          obtain ⟨v100, v101, v102, v103, v104, v105, n106, n107, bo108, bo109, k110⟩ := x95
          exact x_zret C hr hlk rfl dX12_readsCompared_67 ⟨hW92, kp99, (Or.inl rfl), (Or.inl ⟨rfl, ⟨pl24, cm25, wt, _, _, ⟨⟨_, ⟨v100, v101, v102, v103, v104, v105, n106, n107, ⟨by omega, by omega, by omega, by omega, by omega, by omega, by omega⟩, ⟨by omega, by omega⟩, k110⟩⟩, k97, k98⟩⟩⟩)⟩
        · skip
          have hp111 := hv_lt (x87.symm.trans c88) (by decide)
          refine x_bipush C (v := 9) dX12_readsCompared_46 (by decide) rfl ?_
          refine x_goto C (tgt := 52) dX12_readsCompared_48 (by decide) ?_
          refine x_istore_n C (lv' := [(1, .int 9), (0, .ref (a 0))]) dX12_readsCompared_52 rfl (by decide) rfl rfl ?_
          refine x_iload_n C dX12_readsCompared_53 rfl 0 rfl rfl ?_
          refine x_iconst C (v := (-1)) dX12_readsCompared_54 (by decide) rfl ?_
          refine x_icmp_ne C (tgt := 68) dX12_readsCompared_55 (by decide) rfl (fun _ => ?_) (fun h => absurd h (by decide))
          refine x_aload_n C dX12_readsCompared_68 rfl 1 rfl rfl ?_
          refine x_aload_n C dX12_readsCompared_69 rfl 1 rfl rfl ?_
          refine x_get C (ci := 11) (k := 5) 0 k70 rfl in_X12 (by decide) w_1123 rfl dX12_readsCompared_70 rfl ?_
          refine x_iconst C (v := 1) dX12_readsCompared_73 (by decide) rfl ?_
          refine x_iadd C (v := (nI (pl24 + 1))) dX12_readsCompared_74 (nI_add pl24 1) rfl ?_
          obtain ⟨w112, hw113⟩ : ∃ w : va_W, w = List.set w14 0 (ob (a 0) 11 [.ref (a 1), .ref (a 2), .ref (a 3), .ref (a 4), .int (nI tp), .int (nI (pl24 + 1)), .int (nI le), .int v60, .int nu56, .int v61, .int (nI cm25), .int (nI wt), .int (nI sm), .int (nI (cd.2.2.2.2.2)), .ref (a 5), .ref (a 6), .ref (a 7), .ref (a 8), .ref (a 9), .ref (a 10), .ref (a 11), .ref (a 12), .ref (a 13), .ref (a 14), .ref (a 15), .ref (a 16), .ref (a 17), .int (nI lm), .ref (a 18), .ref (a 19), .ref (a 20), .ref (a 21), .int v62, .int v63, .int v64, .int v65, .int (nI n66), .int (nI n67), .ref (a 22), .ref (a 23), .ref (a 24), .ref (a 25), .ref (a 26), .ref (a 27), .ref (a 28), .ref (a 29), .ref (a 30), .int kf]) := ⟨_, rfl⟩
          refine x_put C (ci := 11) (k := 5) (ty := .int) 0 k70 rfl in_X12 tyX12 tyX12_ok nmX12 (by decide) w_1123 rfl rfl rfl rfl (Nat.le_of_ble_eq_true rfl) hw113.symm dX12_readsCompared_75 rfl ?_
          have hW114 : WX (okM E a cd kf jn js jq) w112 := by rw [hw113]; exact hW15.set (k := 0) rfl ⟨tp, (pl24 + 1), le, v60, nu56, v61, cm25, wt, sm, lm, v62, v63, v64, v65, n66, n67, by omega, by omega, by omega, by omega, by omega, by omega, by omega, by omega, by omega, rfl⟩
          have k115 : w112[4]? = some (bA E (a 4) 260 tf) := by rw [hw113]; exact set_ne k19 (by decide)
          have k116 : w112[0]? = some (ob (a 0) 11 [.ref (a 1), .ref (a 2), .ref (a 3), .ref (a 4), .int (nI tp), .int (nI (pl24 + 1)), .int (nI le), .int v60, .int nu56, .int v61, .int (nI cm25), .int (nI wt), .int (nI sm), .int (nI (cd.2.2.2.2.2)), .ref (a 5), .ref (a 6), .ref (a 7), .ref (a 8), .ref (a 9), .ref (a 10), .ref (a 11), .ref (a 12), .ref (a 13), .ref (a 14), .ref (a 15), .ref (a 16), .ref (a 17), .int (nI lm), .ref (a 18), .ref (a 19), .ref (a 20), .ref (a 21), .int v62, .int v63, .int v64, .int v65, .int (nI n66), .int (nI n67), .ref (a 22), .ref (a 23), .ref (a 24), .ref (a 25), .ref (a 26), .ref (a 27), .ref (a 28), .ref (a 29), .ref (a 30), .int kf]) := by rw [hw113]; exact set_eq k70
          have k117 : w112[5]? = some (iA E (a 5) 260 fs26) := by rw [hw113]; exact set_ne k58 (by decide)
          have k118 : w112[6]? = some (iA E (a 6) 260 fw27) := by rw [hw113]; exact set_ne k59 (by decide)
          have kp119 := keeps_set kp20 hw113 (by first | exact rfl | decide | omega | (dsimp only; omega))
          refine x_aload_n C dX12_readsCompared_78 rfl 1 rfl rfl ?_
          refine x_vi C (As := []) (rest := []) (m_readsSum E l a cd hG kf jn js jq w112 hW114 tp (pl24 + 1) le cm25 wt sm lm nu56 ⟨v60, v61, v62, v63, v64, v65, n66, n67, ⟨by omega, by omega, by omega, by omega, by omega, by omega, by omega⟩, ⟨by omega, by omega⟩, k116⟩ tf k115 (by omega) fs26 k117 fw27 k118 W hs30 (cOps_n hco) c0 ((0 + 1)) hs32 (by omega) 1 (by omega) (by omega)) mf_X12_readsSum w_1328 0 k116 rfl rfl rfl (Nat.le_of_ble_eq_true rfl) ⟨(Nat.le_of_ble_eq_true rfl), (Nat.le_of_ble_eq_true rfl)⟩ ⟨(Nat.le_of_ble_eq_true rfl), (Nat.le_of_ble_eq_true rfl)⟩ dX12_readsCompared_79 rfl (fun r121 w122 h120 => ?_)
          obtain ⟨hW123, kq124, zb125, x126⟩ := h120
          have k127 : w122[4]? = some (bA E (a 4) 260 tf) := keeps_at kq124 k115 (by first | decide | omega | (dsimp only; omega))
          have kp128 := keeps_tr kp119 kq124 (fun q hq => by first | omega | (dsimp only at *; omega))
          rcases x126 with ⟨e129, rf130⟩ | ⟨e131, pl132, cm133, fs134, fw135, hs136, hs137, hs138, hs139, hs140, hs141, hs142⟩
          · refine x_top e129 ?_
            obtain ⟨pl143, cm144, wt145, fs146, fw147, rs148⟩ := rf130
            obtain ⟨⟨nu149, mo150⟩, k151, k152⟩ := rs148
            obtain ⟨v153, v154, v155, v156, v157, v158, n159, n160, bo161, bo162, k163⟩ := mo150
            refine x_if_ne C (tgt := 87) dX12_readsCompared_82 (by decide) rfl (fun h => absurd h (by decide)) (fun _ => ?_)
            refine x_iconst C (v := 0) dX12_readsCompared_85 (by decide) rfl ?_
            exact x_zret C hr hlk rfl dX12_readsCompared_86 ⟨hW123, kp128, (Or.inl rfl), (Or.inl ⟨rfl, ⟨pl143, cm144, wt145, _, _, ⟨⟨_, ⟨v153, v154, v155, v156, v157, v158, n159, n160, ⟨by omega, by omega, by omega, by omega, by omega, by omega, by omega⟩, ⟨by omega, by omega⟩, k163⟩⟩, k151, k152⟩⟩⟩)⟩
          · refine x_top e131 ?_
            obtain ⟨⟨nu164, mo165⟩, k166, k167⟩ := hs139
            obtain ⟨v168, v169, v170, v171, v172, v173, n174, n175, bo176, bo177, k178⟩ := mo165
            refine x_if_ne C (tgt := 87) dX12_readsCompared_82 (by decide) rfl (fun _ => ?_) (fun h => absurd h (by decide))
            refine x_aload_n C dX12_readsCompared_87 rfl 1 rfl rfl ?_
            refine x_iload_n C dX12_readsCompared_88 rfl 0 rfl rfl ?_
            refine x_iconst C (v := 0) dX12_readsCompared_89 (by decide) rfl ?_
            refine x_vv C (As := [.int 9, .int 0]) (rest := []) (m_notes E l a cd hG kf jn js jq w122 hW123 9 0 (by omega) (by omega) tp pl132 le cm133 wt sm lm nu164 ⟨v168, v169, v170, v171, v172, v173, n174, n175, ⟨by omega, by omega, by omega, by omega, by omega, by omega, by omega⟩, ⟨by omega, by omega⟩, k178⟩ fs134 k166 (by omega)) mf_X12_notes w_1349 0 k178 rfl rfl rfl (Nat.le_of_ble_eq_true rfl) ⟨(Nat.le_of_ble_eq_true rfl), (Nat.le_of_ble_eq_true rfl)⟩ ⟨(Nat.le_of_ble_eq_true rfl), (Nat.le_of_ble_eq_true rfl)⟩ dX12_readsCompared_90 rfl (fun w181 h179 => ?_)
            obtain ⟨hW182, kq183, x184⟩ := h179
            have k185 : w181[4]? = some (bA E (a 4) 260 tf) := keeps_at kq183 k127 (by first | decide | omega | (dsimp only; omega))
            have k186 : w181[6]? = some (iA E (a 6) 260 fw135) := keeps_at kq183 k167 (by first | decide | omega | (dsimp only; omega))
            have kp187 := keeps_tr kp128 kq183 (fun q hq => by first | omega | (dsimp only at *; omega))
            obtain ⟨mo188, k189⟩ := x184
            obtain ⟨v190, v191, v192, v193, v194, v195, n196, n197, bo198, bo199, k200⟩ := mo188
            have ci201 := CI_note (op := 9) (v := 0) (h' := 1) hs140 (by omega) (by omega) (by omega) (Or.inr (Or.inr (Or.inr ⟨by omega, by omega, by omega, by omega⟩)))
            refine x_aload_n C dX12_readsCompared_93 rfl 1 rfl rfl ?_
            refine x_vv C (As := []) (rest := []) (m_endsPiece E l a cd hG kf jn js jq w181 hW182 tp pl132 le (cm133 + 1) wt sm lm nu164 ⟨v190, v191, v192, v193, v194, v195, n196, n197, ⟨by omega, by omega, by omega, by omega, by omega, by omega, by omega⟩, ⟨by omega, by omega⟩, k200⟩ ((upd fs134 cm133 (nI (1048576 * 9 + 0)))) k189 fw135 k186 W hs138 c0 ci201 hco hbo (by omega)) mf_X12_endsPiece w_1379 0 k200 rfl rfl rfl (Nat.le_of_ble_eq_true rfl) ⟨(Nat.le_of_ble_eq_true rfl), (Nat.le_of_ble_eq_true rfl)⟩ ⟨(Nat.le_of_ble_eq_true rfl), (Nat.le_of_ble_eq_true rfl)⟩ dX12_readsCompared_94 rfl (fun w204 h202 => ?_)
            obtain ⟨hW205, kq206, x207⟩ := h202
            have k208 : w204[4]? = some (bA E (a 4) 260 tf) := keeps_at kq206 k185 (by first | decide | omega | (dsimp only; omega))
            have k209 : w204[6]? = some (iA E (a 6) 260 fw135) := keeps_at kq206 k186 (by first | decide | omega | (dsimp only; omega))
            have kp210 := keeps_tr kp187 kq206 (fun q hq => by first | omega | (dsimp only at *; omega))
            obtain ⟨cm211, wt212, fs213, We214, hc215, hc216, hc217, hc218, hc219, hc220, hc221, hc222, hc223⟩ := x207
            obtain ⟨v224, v225, v226, v227, v228, v229, n230, n231, bo232, bo233, k234⟩ := hc217
            refine x_iconst C (v := 1) dX12_readsCompared_97 (by decide) rfl ?_
            exact x_zret C hr hlk rfl dX12_readsCompared_98 ⟨hW205, kp210, (Or.inr rfl), (Or.inr ⟨rfl, pl132, cm211, wt212, _, _, We214, by omega, by omega, hc215, by omega, ⟨⟨_, ⟨v224, v225, v226, v227, v228, v229, n230, n231, ⟨by omega, by omega, by omega, by omega, by omega, by omega, by omega⟩, ⟨by omega, by omega⟩, k234⟩⟩, hc218, k209⟩, hc219, hc220, hc221, by omega, (fun k hk => (hc223 k hk).trans ((pk_un (by have q9 := CI_le hs140; omega)).trans ((hs142 k hk).trans (hs34 k hk))))⟩)⟩
      · skip
        have hp235 := hv_lt (x81.symm.trans c82) (by decide)
        refine x_bipush C (v := 8) dX12_readsCompared_32 (by decide) rfl ?_
        refine x_goto C (tgt := 52) dX12_readsCompared_34 (by decide) ?_
        refine x_istore_n C (lv' := [(1, .int 8), (0, .ref (a 0))]) dX12_readsCompared_52 rfl (by decide) rfl rfl ?_
        refine x_iload_n C dX12_readsCompared_53 rfl 0 rfl rfl ?_
        refine x_iconst C (v := (-1)) dX12_readsCompared_54 (by decide) rfl ?_
        refine x_icmp_ne C (tgt := 68) dX12_readsCompared_55 (by decide) rfl (fun _ => ?_) (fun h => absurd h (by decide))
        refine x_aload_n C dX12_readsCompared_68 rfl 1 rfl rfl ?_
        refine x_aload_n C dX12_readsCompared_69 rfl 1 rfl rfl ?_
        refine x_get C (ci := 11) (k := 5) 0 k70 rfl in_X12 (by decide) w_1123 rfl dX12_readsCompared_70 rfl ?_
        refine x_iconst C (v := 1) dX12_readsCompared_73 (by decide) rfl ?_
        refine x_iadd C (v := (nI (pl24 + 1))) dX12_readsCompared_74 (nI_add pl24 1) rfl ?_
        obtain ⟨w236, hw237⟩ : ∃ w : va_W, w = List.set w14 0 (ob (a 0) 11 [.ref (a 1), .ref (a 2), .ref (a 3), .ref (a 4), .int (nI tp), .int (nI (pl24 + 1)), .int (nI le), .int v60, .int nu56, .int v61, .int (nI cm25), .int (nI wt), .int (nI sm), .int (nI (cd.2.2.2.2.2)), .ref (a 5), .ref (a 6), .ref (a 7), .ref (a 8), .ref (a 9), .ref (a 10), .ref (a 11), .ref (a 12), .ref (a 13), .ref (a 14), .ref (a 15), .ref (a 16), .ref (a 17), .int (nI lm), .ref (a 18), .ref (a 19), .ref (a 20), .ref (a 21), .int v62, .int v63, .int v64, .int v65, .int (nI n66), .int (nI n67), .ref (a 22), .ref (a 23), .ref (a 24), .ref (a 25), .ref (a 26), .ref (a 27), .ref (a 28), .ref (a 29), .ref (a 30), .int kf]) := ⟨_, rfl⟩
        refine x_put C (ci := 11) (k := 5) (ty := .int) 0 k70 rfl in_X12 tyX12 tyX12_ok nmX12 (by decide) w_1123 rfl rfl rfl rfl (Nat.le_of_ble_eq_true rfl) hw237.symm dX12_readsCompared_75 rfl ?_
        have hW238 : WX (okM E a cd kf jn js jq) w236 := by rw [hw237]; exact hW15.set (k := 0) rfl ⟨tp, (pl24 + 1), le, v60, nu56, v61, cm25, wt, sm, lm, v62, v63, v64, v65, n66, n67, by omega, by omega, by omega, by omega, by omega, by omega, by omega, by omega, by omega, rfl⟩
        have k239 : w236[4]? = some (bA E (a 4) 260 tf) := by rw [hw237]; exact set_ne k19 (by decide)
        have k240 : w236[0]? = some (ob (a 0) 11 [.ref (a 1), .ref (a 2), .ref (a 3), .ref (a 4), .int (nI tp), .int (nI (pl24 + 1)), .int (nI le), .int v60, .int nu56, .int v61, .int (nI cm25), .int (nI wt), .int (nI sm), .int (nI (cd.2.2.2.2.2)), .ref (a 5), .ref (a 6), .ref (a 7), .ref (a 8), .ref (a 9), .ref (a 10), .ref (a 11), .ref (a 12), .ref (a 13), .ref (a 14), .ref (a 15), .ref (a 16), .ref (a 17), .int (nI lm), .ref (a 18), .ref (a 19), .ref (a 20), .ref (a 21), .int v62, .int v63, .int v64, .int v65, .int (nI n66), .int (nI n67), .ref (a 22), .ref (a 23), .ref (a 24), .ref (a 25), .ref (a 26), .ref (a 27), .ref (a 28), .ref (a 29), .ref (a 30), .int kf]) := by rw [hw237]; exact set_eq k70
        have k241 : w236[5]? = some (iA E (a 5) 260 fs26) := by rw [hw237]; exact set_ne k58 (by decide)
        have k242 : w236[6]? = some (iA E (a 6) 260 fw27) := by rw [hw237]; exact set_ne k59 (by decide)
        have kp243 := keeps_set kp20 hw237 (by first | exact rfl | decide | omega | (dsimp only; omega))
        refine x_aload_n C dX12_readsCompared_78 rfl 1 rfl rfl ?_
        refine x_vi C (As := []) (rest := []) (m_readsSum E l a cd hG kf jn js jq w236 hW238 tp (pl24 + 1) le cm25 wt sm lm nu56 ⟨v60, v61, v62, v63, v64, v65, n66, n67, ⟨by omega, by omega, by omega, by omega, by omega, by omega, by omega⟩, ⟨by omega, by omega⟩, k240⟩ tf k239 (by omega) fs26 k241 fw27 k242 W hs30 (cOps_n hco) c0 ((0 + 1)) hs32 (by omega) 1 (by omega) (by omega)) mf_X12_readsSum w_1328 0 k240 rfl rfl rfl (Nat.le_of_ble_eq_true rfl) ⟨(Nat.le_of_ble_eq_true rfl), (Nat.le_of_ble_eq_true rfl)⟩ ⟨(Nat.le_of_ble_eq_true rfl), (Nat.le_of_ble_eq_true rfl)⟩ dX12_readsCompared_79 rfl (fun r245 w246 h244 => ?_)
        obtain ⟨hW247, kq248, zb249, x250⟩ := h244
        have k251 : w246[4]? = some (bA E (a 4) 260 tf) := keeps_at kq248 k239 (by first | decide | omega | (dsimp only; omega))
        have kp252 := keeps_tr kp243 kq248 (fun q hq => by first | omega | (dsimp only at *; omega))
        rcases x250 with ⟨e253, rf254⟩ | ⟨e255, pl256, cm257, fs258, fw259, hs260, hs261, hs262, hs263, hs264, hs265, hs266⟩
        · refine x_top e253 ?_
          obtain ⟨pl267, cm268, wt269, fs270, fw271, rs272⟩ := rf254
          obtain ⟨⟨nu273, mo274⟩, k275, k276⟩ := rs272
          obtain ⟨v277, v278, v279, v280, v281, v282, n283, n284, bo285, bo286, k287⟩ := mo274
          refine x_if_ne C (tgt := 87) dX12_readsCompared_82 (by decide) rfl (fun h => absurd h (by decide)) (fun _ => ?_)
          refine x_iconst C (v := 0) dX12_readsCompared_85 (by decide) rfl ?_
          exact x_zret C hr hlk rfl dX12_readsCompared_86 ⟨hW247, kp252, (Or.inl rfl), (Or.inl ⟨rfl, ⟨pl267, cm268, wt269, _, _, ⟨⟨_, ⟨v277, v278, v279, v280, v281, v282, n283, n284, ⟨by omega, by omega, by omega, by omega, by omega, by omega, by omega⟩, ⟨by omega, by omega⟩, k287⟩⟩, k275, k276⟩⟩⟩)⟩
        · refine x_top e255 ?_
          obtain ⟨⟨nu288, mo289⟩, k290, k291⟩ := hs263
          obtain ⟨v292, v293, v294, v295, v296, v297, n298, n299, bo300, bo301, k302⟩ := mo289
          refine x_if_ne C (tgt := 87) dX12_readsCompared_82 (by decide) rfl (fun _ => ?_) (fun h => absurd h (by decide))
          refine x_aload_n C dX12_readsCompared_87 rfl 1 rfl rfl ?_
          refine x_iload_n C dX12_readsCompared_88 rfl 0 rfl rfl ?_
          refine x_iconst C (v := 0) dX12_readsCompared_89 (by decide) rfl ?_
          refine x_vv C (As := [.int 8, .int 0]) (rest := []) (m_notes E l a cd hG kf jn js jq w246 hW247 8 0 (by omega) (by omega) tp pl256 le cm257 wt sm lm nu288 ⟨v292, v293, v294, v295, v296, v297, n298, n299, ⟨by omega, by omega, by omega, by omega, by omega, by omega, by omega⟩, ⟨by omega, by omega⟩, k302⟩ fs258 k290 (by omega)) mf_X12_notes w_1349 0 k302 rfl rfl rfl (Nat.le_of_ble_eq_true rfl) ⟨(Nat.le_of_ble_eq_true rfl), (Nat.le_of_ble_eq_true rfl)⟩ ⟨(Nat.le_of_ble_eq_true rfl), (Nat.le_of_ble_eq_true rfl)⟩ dX12_readsCompared_90 rfl (fun w305 h303 => ?_)
          obtain ⟨hW306, kq307, x308⟩ := h303
          have k309 : w305[4]? = some (bA E (a 4) 260 tf) := keeps_at kq307 k251 (by first | decide | omega | (dsimp only; omega))
          have k310 : w305[6]? = some (iA E (a 6) 260 fw259) := keeps_at kq307 k291 (by first | decide | omega | (dsimp only; omega))
          have kp311 := keeps_tr kp252 kq307 (fun q hq => by first | omega | (dsimp only at *; omega))
          obtain ⟨mo312, k313⟩ := x308
          obtain ⟨v314, v315, v316, v317, v318, v319, n320, n321, bo322, bo323, k324⟩ := mo312
          have ci325 := CI_note (op := 8) (v := 0) (h' := 1) hs264 (by omega) (by omega) (by omega) (Or.inr (Or.inr (Or.inr ⟨by omega, by omega, by omega, by omega⟩)))
          refine x_aload_n C dX12_readsCompared_93 rfl 1 rfl rfl ?_
          refine x_vv C (As := []) (rest := []) (m_endsPiece E l a cd hG kf jn js jq w305 hW306 tp pl256 le (cm257 + 1) wt sm lm nu288 ⟨v314, v315, v316, v317, v318, v319, n320, n321, ⟨by omega, by omega, by omega, by omega, by omega, by omega, by omega⟩, ⟨by omega, by omega⟩, k324⟩ ((upd fs258 cm257 (nI (1048576 * 8 + 0)))) k313 fw259 k310 W hs262 c0 ci325 hco hbo (by omega)) mf_X12_endsPiece w_1379 0 k324 rfl rfl rfl (Nat.le_of_ble_eq_true rfl) ⟨(Nat.le_of_ble_eq_true rfl), (Nat.le_of_ble_eq_true rfl)⟩ ⟨(Nat.le_of_ble_eq_true rfl), (Nat.le_of_ble_eq_true rfl)⟩ dX12_readsCompared_94 rfl (fun w328 h326 => ?_)
          obtain ⟨hW329, kq330, x331⟩ := h326
          have k332 : w328[4]? = some (bA E (a 4) 260 tf) := keeps_at kq330 k309 (by first | decide | omega | (dsimp only; omega))
          have k333 : w328[6]? = some (iA E (a 6) 260 fw259) := keeps_at kq330 k310 (by first | decide | omega | (dsimp only; omega))
          have kp334 := keeps_tr kp311 kq330 (fun q hq => by first | omega | (dsimp only at *; omega))
          obtain ⟨cm335, wt336, fs337, We338, hc339, hc340, hc341, hc342, hc343, hc344, hc345, hc346, hc347⟩ := x331
          obtain ⟨v348, v349, v350, v351, v352, v353, n354, n355, bo356, bo357, k358⟩ := hc341
          refine x_iconst C (v := 1) dX12_readsCompared_97 (by decide) rfl ?_
          exact x_zret C hr hlk rfl dX12_readsCompared_98 ⟨hW329, kp334, (Or.inr rfl), (Or.inr ⟨rfl, pl256, cm335, wt336, _, _, We338, by omega, by omega, hc339, by omega, ⟨⟨_, ⟨v348, v349, v350, v351, v352, v353, n354, n355, ⟨by omega, by omega, by omega, by omega, by omega, by omega, by omega⟩, ⟨by omega, by omega⟩, k358⟩⟩, hc342, k333⟩, hc343, hc344, hc345, by omega, (fun k hk => (hc347 k hk).trans ((pk_un (by have q9 := CI_le hs264; omega)).trans ((hs266 k hk).trans (hs34 k hk))))⟩)⟩
    · skip
      have hp359 := hv_lt (x75.symm.trans c76) (by decide)
      refine x_bipush C (v := 7) dX12_readsCompared_18 (by decide) rfl ?_
      refine x_goto C (tgt := 52) dX12_readsCompared_20 (by decide) ?_
      refine x_istore_n C (lv' := [(1, .int 7), (0, .ref (a 0))]) dX12_readsCompared_52 rfl (by decide) rfl rfl ?_
      refine x_iload_n C dX12_readsCompared_53 rfl 0 rfl rfl ?_
      refine x_iconst C (v := (-1)) dX12_readsCompared_54 (by decide) rfl ?_
      refine x_icmp_ne C (tgt := 68) dX12_readsCompared_55 (by decide) rfl (fun _ => ?_) (fun h => absurd h (by decide))
      refine x_aload_n C dX12_readsCompared_68 rfl 1 rfl rfl ?_
      refine x_aload_n C dX12_readsCompared_69 rfl 1 rfl rfl ?_
      refine x_get C (ci := 11) (k := 5) 0 k70 rfl in_X12 (by decide) w_1123 rfl dX12_readsCompared_70 rfl ?_
      refine x_iconst C (v := 1) dX12_readsCompared_73 (by decide) rfl ?_
      refine x_iadd C (v := (nI (pl24 + 1))) dX12_readsCompared_74 (nI_add pl24 1) rfl ?_
      obtain ⟨w360, hw361⟩ : ∃ w : va_W, w = List.set w14 0 (ob (a 0) 11 [.ref (a 1), .ref (a 2), .ref (a 3), .ref (a 4), .int (nI tp), .int (nI (pl24 + 1)), .int (nI le), .int v60, .int nu56, .int v61, .int (nI cm25), .int (nI wt), .int (nI sm), .int (nI (cd.2.2.2.2.2)), .ref (a 5), .ref (a 6), .ref (a 7), .ref (a 8), .ref (a 9), .ref (a 10), .ref (a 11), .ref (a 12), .ref (a 13), .ref (a 14), .ref (a 15), .ref (a 16), .ref (a 17), .int (nI lm), .ref (a 18), .ref (a 19), .ref (a 20), .ref (a 21), .int v62, .int v63, .int v64, .int v65, .int (nI n66), .int (nI n67), .ref (a 22), .ref (a 23), .ref (a 24), .ref (a 25), .ref (a 26), .ref (a 27), .ref (a 28), .ref (a 29), .ref (a 30), .int kf]) := ⟨_, rfl⟩
      refine x_put C (ci := 11) (k := 5) (ty := .int) 0 k70 rfl in_X12 tyX12 tyX12_ok nmX12 (by decide) w_1123 rfl rfl rfl rfl (Nat.le_of_ble_eq_true rfl) hw361.symm dX12_readsCompared_75 rfl ?_
      have hW362 : WX (okM E a cd kf jn js jq) w360 := by rw [hw361]; exact hW15.set (k := 0) rfl ⟨tp, (pl24 + 1), le, v60, nu56, v61, cm25, wt, sm, lm, v62, v63, v64, v65, n66, n67, by omega, by omega, by omega, by omega, by omega, by omega, by omega, by omega, by omega, rfl⟩
      have k363 : w360[4]? = some (bA E (a 4) 260 tf) := by rw [hw361]; exact set_ne k19 (by decide)
      have k364 : w360[0]? = some (ob (a 0) 11 [.ref (a 1), .ref (a 2), .ref (a 3), .ref (a 4), .int (nI tp), .int (nI (pl24 + 1)), .int (nI le), .int v60, .int nu56, .int v61, .int (nI cm25), .int (nI wt), .int (nI sm), .int (nI (cd.2.2.2.2.2)), .ref (a 5), .ref (a 6), .ref (a 7), .ref (a 8), .ref (a 9), .ref (a 10), .ref (a 11), .ref (a 12), .ref (a 13), .ref (a 14), .ref (a 15), .ref (a 16), .ref (a 17), .int (nI lm), .ref (a 18), .ref (a 19), .ref (a 20), .ref (a 21), .int v62, .int v63, .int v64, .int v65, .int (nI n66), .int (nI n67), .ref (a 22), .ref (a 23), .ref (a 24), .ref (a 25), .ref (a 26), .ref (a 27), .ref (a 28), .ref (a 29), .ref (a 30), .int kf]) := by rw [hw361]; exact set_eq k70
      have k365 : w360[5]? = some (iA E (a 5) 260 fs26) := by rw [hw361]; exact set_ne k58 (by decide)
      have k366 : w360[6]? = some (iA E (a 6) 260 fw27) := by rw [hw361]; exact set_ne k59 (by decide)
      have kp367 := keeps_set kp20 hw361 (by first | exact rfl | decide | omega | (dsimp only; omega))
      refine x_aload_n C dX12_readsCompared_78 rfl 1 rfl rfl ?_
      refine x_vi C (As := []) (rest := []) (m_readsSum E l a cd hG kf jn js jq w360 hW362 tp (pl24 + 1) le cm25 wt sm lm nu56 ⟨v60, v61, v62, v63, v64, v65, n66, n67, ⟨by omega, by omega, by omega, by omega, by omega, by omega, by omega⟩, ⟨by omega, by omega⟩, k364⟩ tf k363 (by omega) fs26 k365 fw27 k366 W hs30 (cOps_n hco) c0 ((0 + 1)) hs32 (by omega) 1 (by omega) (by omega)) mf_X12_readsSum w_1328 0 k364 rfl rfl rfl (Nat.le_of_ble_eq_true rfl) ⟨(Nat.le_of_ble_eq_true rfl), (Nat.le_of_ble_eq_true rfl)⟩ ⟨(Nat.le_of_ble_eq_true rfl), (Nat.le_of_ble_eq_true rfl)⟩ dX12_readsCompared_79 rfl (fun r369 w370 h368 => ?_)
      obtain ⟨hW371, kq372, zb373, x374⟩ := h368
      have k375 : w370[4]? = some (bA E (a 4) 260 tf) := keeps_at kq372 k363 (by first | decide | omega | (dsimp only; omega))
      have kp376 := keeps_tr kp367 kq372 (fun q hq => by first | omega | (dsimp only at *; omega))
      rcases x374 with ⟨e377, rf378⟩ | ⟨e379, pl380, cm381, fs382, fw383, hs384, hs385, hs386, hs387, hs388, hs389, hs390⟩
      · refine x_top e377 ?_
        obtain ⟨pl391, cm392, wt393, fs394, fw395, rs396⟩ := rf378
        obtain ⟨⟨nu397, mo398⟩, k399, k400⟩ := rs396
        obtain ⟨v401, v402, v403, v404, v405, v406, n407, n408, bo409, bo410, k411⟩ := mo398
        refine x_if_ne C (tgt := 87) dX12_readsCompared_82 (by decide) rfl (fun h => absurd h (by decide)) (fun _ => ?_)
        refine x_iconst C (v := 0) dX12_readsCompared_85 (by decide) rfl ?_
        exact x_zret C hr hlk rfl dX12_readsCompared_86 ⟨hW371, kp376, (Or.inl rfl), (Or.inl ⟨rfl, ⟨pl391, cm392, wt393, _, _, ⟨⟨_, ⟨v401, v402, v403, v404, v405, v406, n407, n408, ⟨by omega, by omega, by omega, by omega, by omega, by omega, by omega⟩, ⟨by omega, by omega⟩, k411⟩⟩, k399, k400⟩⟩⟩)⟩
      · refine x_top e379 ?_
        obtain ⟨⟨nu412, mo413⟩, k414, k415⟩ := hs387
        obtain ⟨v416, v417, v418, v419, v420, v421, n422, n423, bo424, bo425, k426⟩ := mo413
        refine x_if_ne C (tgt := 87) dX12_readsCompared_82 (by decide) rfl (fun _ => ?_) (fun h => absurd h (by decide))
        refine x_aload_n C dX12_readsCompared_87 rfl 1 rfl rfl ?_
        refine x_iload_n C dX12_readsCompared_88 rfl 0 rfl rfl ?_
        refine x_iconst C (v := 0) dX12_readsCompared_89 (by decide) rfl ?_
        refine x_vv C (As := [.int 7, .int 0]) (rest := []) (m_notes E l a cd hG kf jn js jq w370 hW371 7 0 (by omega) (by omega) tp pl380 le cm381 wt sm lm nu412 ⟨v416, v417, v418, v419, v420, v421, n422, n423, ⟨by omega, by omega, by omega, by omega, by omega, by omega, by omega⟩, ⟨by omega, by omega⟩, k426⟩ fs382 k414 (by omega)) mf_X12_notes w_1349 0 k426 rfl rfl rfl (Nat.le_of_ble_eq_true rfl) ⟨(Nat.le_of_ble_eq_true rfl), (Nat.le_of_ble_eq_true rfl)⟩ ⟨(Nat.le_of_ble_eq_true rfl), (Nat.le_of_ble_eq_true rfl)⟩ dX12_readsCompared_90 rfl (fun w429 h427 => ?_)
        obtain ⟨hW430, kq431, x432⟩ := h427
        have k433 : w429[4]? = some (bA E (a 4) 260 tf) := keeps_at kq431 k375 (by first | decide | omega | (dsimp only; omega))
        have k434 : w429[6]? = some (iA E (a 6) 260 fw383) := keeps_at kq431 k415 (by first | decide | omega | (dsimp only; omega))
        have kp435 := keeps_tr kp376 kq431 (fun q hq => by first | omega | (dsimp only at *; omega))
        obtain ⟨mo436, k437⟩ := x432
        obtain ⟨v438, v439, v440, v441, v442, v443, n444, n445, bo446, bo447, k448⟩ := mo436
        have ci449 := CI_note (op := 7) (v := 0) (h' := 1) hs388 (by omega) (by omega) (by omega) (Or.inr (Or.inr (Or.inr ⟨by omega, by omega, by omega, by omega⟩)))
        refine x_aload_n C dX12_readsCompared_93 rfl 1 rfl rfl ?_
        refine x_vv C (As := []) (rest := []) (m_endsPiece E l a cd hG kf jn js jq w429 hW430 tp pl380 le (cm381 + 1) wt sm lm nu412 ⟨v438, v439, v440, v441, v442, v443, n444, n445, ⟨by omega, by omega, by omega, by omega, by omega, by omega, by omega⟩, ⟨by omega, by omega⟩, k448⟩ ((upd fs382 cm381 (nI (1048576 * 7 + 0)))) k437 fw383 k434 W hs386 c0 ci449 hco hbo (by omega)) mf_X12_endsPiece w_1379 0 k448 rfl rfl rfl (Nat.le_of_ble_eq_true rfl) ⟨(Nat.le_of_ble_eq_true rfl), (Nat.le_of_ble_eq_true rfl)⟩ ⟨(Nat.le_of_ble_eq_true rfl), (Nat.le_of_ble_eq_true rfl)⟩ dX12_readsCompared_94 rfl (fun w452 h450 => ?_)
        obtain ⟨hW453, kq454, x455⟩ := h450
        have k456 : w452[4]? = some (bA E (a 4) 260 tf) := keeps_at kq454 k433 (by first | decide | omega | (dsimp only; omega))
        have k457 : w452[6]? = some (iA E (a 6) 260 fw383) := keeps_at kq454 k434 (by first | decide | omega | (dsimp only; omega))
        have kp458 := keeps_tr kp435 kq454 (fun q hq => by first | omega | (dsimp only at *; omega))
        obtain ⟨cm459, wt460, fs461, We462, hc463, hc464, hc465, hc466, hc467, hc468, hc469, hc470, hc471⟩ := x455
        obtain ⟨v472, v473, v474, v475, v476, v477, n478, n479, bo480, bo481, k482⟩ := hc465
        refine x_iconst C (v := 1) dX12_readsCompared_97 (by decide) rfl ?_
        exact x_zret C hr hlk rfl dX12_readsCompared_98 ⟨hW453, kp458, (Or.inr rfl), (Or.inr ⟨rfl, pl380, cm459, wt460, _, _, We462, by omega, by omega, hc463, by omega, ⟨⟨_, ⟨v472, v473, v474, v475, v476, v477, n478, n479, ⟨by omega, by omega, by omega, by omega, by omega, by omega, by omega⟩, ⟨by omega, by omega⟩, k482⟩⟩, hc466, k457⟩, hc467, hc468, hc469, by omega, (fun k hk => (hc471 k hk).trans ((pk_un (by have q9 := CI_le hs388; omega)).trans ((hs390 k hk).trans (hs34 k hk))))⟩)⟩
theorem dX12_readsCondition_0 : decode cX12_readsCondition 0 = .ok (.aload_n 0, 1) := by decide +kernel
theorem dX12_readsCondition_1 : decode cX12_readsCondition 1 = .ok (.invokevirtual 137, 3) := by decide +kernel
theorem dX12_readsCondition_4 : decode cX12_readsCondition 4 = .ok (.bipush 40, 2) := by decide +kernel
theorem dX12_readsCondition_6 : decode cX12_readsCondition 6 = .ok (.if_icmp .eq 13, 3) := by decide +kernel
theorem dX12_readsCondition_9 : decode cX12_readsCondition 9 = .ok (.aload_n 0, 1) := by decide +kernel
theorem dX12_readsCondition_10 : decode cX12_readsCondition 10 = .ok (.iconst 1, 1) := by decide +kernel
theorem dX12_readsCondition_11 : decode cX12_readsCondition 11 = .ok (.aload_n 0, 1) := by decide +kernel
theorem dX12_readsCondition_12 : decode cX12_readsCondition 12 = .ok (.getfield 131, 3) := by decide +kernel
theorem dX12_readsCondition_15 : decode cX12_readsCondition 15 = .ok (.invokevirtual 144, 3) := by decide +kernel
theorem dX12_readsCondition_18 : decode cX12_readsCondition 18 = .ok (.ireturn, 1) := by decide +kernel
theorem dX12_readsCondition_19 : decode cX12_readsCondition 19 = .ok (.aload_n 0, 1) := by decide +kernel
theorem dX12_readsCondition_20 : decode cX12_readsCondition 20 = .ok (.iconst 0, 1) := by decide +kernel
theorem dX12_readsCondition_21 : decode cX12_readsCondition 21 = .ok (.putfield 158, 3) := by decide +kernel
theorem dX12_readsCondition_24 : decode cX12_readsCondition 24 = .ok (.aload_n 0, 1) := by decide +kernel
theorem dX12_readsCondition_25 : decode cX12_readsCondition 25 = .ok (.iconst 0, 1) := by decide +kernel
theorem dX12_readsCondition_26 : decode cX12_readsCondition 26 = .ok (.putfield 161, 3) := by decide +kernel
theorem dX12_readsCondition_29 : decode cX12_readsCondition 29 = .ok (.aload_n 0, 1) := by decide +kernel
theorem dX12_readsCondition_30 : decode cX12_readsCondition 30 = .ok (.bipush 13, 2) := by decide +kernel
theorem dX12_readsCondition_32 : decode cX12_readsCondition 32 = .ok (.invokevirtual 170, 3) := by decide +kernel
theorem dX12_readsCondition_35 : decode cX12_readsCondition 35 = .ok (.ifCond .ne 5, 3) := by decide +kernel
theorem dX12_readsCondition_38 : decode cX12_readsCondition 38 = .ok (.iconst 0, 1) := by decide +kernel
theorem dX12_readsCondition_39 : decode cX12_readsCondition 39 = .ok (.ireturn, 1) := by decide +kernel
theorem dX12_readsCondition_40 : decode cX12_readsCondition 40 = .ok (.aload_n 0, 1) := by decide +kernel
theorem dX12_readsCondition_41 : decode cX12_readsCondition 41 = .ok (.invokevirtual 137, 3) := by decide +kernel
theorem dX12_readsCondition_44 : decode cX12_readsCondition 44 = .ok (.bipush 33, 2) := by decide +kernel
theorem dX12_readsCondition_46 : decode cX12_readsCondition 46 = .ok (.if_icmp .eq 12, 3) := by decide +kernel
theorem dX12_readsCondition_49 : decode cX12_readsCondition 49 = .ok (.aload_n 0, 1) := by decide +kernel
theorem dX12_readsCondition_50 : decode cX12_readsCondition 50 = .ok (.invokevirtual 137, 3) := by decide +kernel
theorem dX12_readsCondition_53 : decode cX12_readsCondition 53 = .ok (.bipush 40, 2) := by decide +kernel
theorem dX12_readsCondition_55 : decode cX12_readsCondition 55 = .ok (.if_icmp .ne 28, 3) := by decide +kernel
theorem dX12_readsCondition_58 : decode cX12_readsCondition 58 = .ok (.aload_n 0, 1) := by decide +kernel
theorem dX12_readsCondition_59 : decode cX12_readsCondition 59 = .ok (.aload_n 0, 1) := by decide +kernel
theorem dX12_readsCondition_60 : decode cX12_readsCondition 60 = .ok (.invokevirtual 137, 3) := by decide +kernel
theorem dX12_readsCondition_63 : decode cX12_readsCondition 63 = .ok (.bipush 33, 2) := by decide +kernel
theorem dX12_readsCondition_65 : decode cX12_readsCondition 65 = .ok (.if_icmp .ne 8, 3) := by decide +kernel
theorem dX12_readsCondition_68 : decode cX12_readsCondition 68 = .ok (.bipush 10, 2) := by decide +kernel
theorem dX12_readsCondition_70 : decode cX12_readsCondition 70 = .ok (.goto 5, 3) := by decide +kernel
theorem dX12_readsCondition_73 : decode cX12_readsCondition 73 = .ok (.bipush 13, 2) := by decide +kernel
theorem dX12_readsCondition_75 : decode cX12_readsCondition 75 = .ok (.invokevirtual 170, 3) := by decide +kernel
theorem dX12_readsCondition_78 : decode cX12_readsCondition 78 = .ok (.ifCond .ne (-38), 3) := by decide +kernel
theorem dX12_readsCondition_81 : decode cX12_readsCondition 81 = .ok (.iconst 0, 1) := by decide +kernel
theorem dX12_readsCondition_82 : decode cX12_readsCondition 82 = .ok (.ireturn, 1) := by decide +kernel
theorem dX12_readsCondition_83 : decode cX12_readsCondition 83 = .ok (.aload_n 0, 1) := by decide +kernel
theorem dX12_readsCondition_84 : decode cX12_readsCondition 84 = .ok (.invokevirtual 199, 3) := by decide +kernel
theorem dX12_readsCondition_87 : decode cX12_readsCondition 87 = .ok (.ifCond .ne 5, 3) := by decide +kernel
theorem dX12_readsCondition_90 : decode cX12_readsCondition 90 = .ok (.iconst 0, 1) := by decide +kernel
theorem dX12_readsCondition_91 : decode cX12_readsCondition 91 = .ok (.ireturn, 1) := by decide +kernel
theorem dX12_readsCondition_92 : decode cX12_readsCondition 92 = .ok (.aload_n 0, 1) := by decide +kernel
theorem dX12_readsCondition_93 : decode cX12_readsCondition 93 = .ok (.invokevirtual 137, 3) := by decide +kernel
theorem dX12_readsCondition_96 : decode cX12_readsCondition 96 = .ok (.bipush 41, 2) := by decide +kernel
theorem dX12_readsCondition_98 : decode cX12_readsCondition 98 = .ok (.if_icmp .ne 54, 3) := by decide +kernel
theorem dX12_readsCondition_101 : decode cX12_readsCondition 101 = .ok (.aload_n 0, 1) := by decide +kernel
theorem dX12_readsCondition_102 : decode cX12_readsCondition 102 = .ok (.iconst 1, 1) := by decide +kernel
theorem dX12_readsCondition_103 : decode cX12_readsCondition 103 = .ok (.invokevirtual 202, 3) := by decide +kernel
theorem dX12_readsCondition_106 : decode cX12_readsCondition 106 = .ok (.aload_n 0, 1) := by decide +kernel
theorem dX12_readsCondition_107 : decode cX12_readsCondition 107 = .ok (.aload_n 0, 1) := by decide +kernel
theorem dX12_readsCondition_108 : decode cX12_readsCondition 108 = .ok (.getfield 161, 3) := by decide +kernel
theorem dX12_readsCondition_111 : decode cX12_readsCondition 111 = .ok (.iconst 1, 1) := by decide +kernel
theorem dX12_readsCondition_112 : decode cX12_readsCondition 112 = .ok (.isub, 1) := by decide +kernel
theorem dX12_readsCondition_113 : decode cX12_readsCondition 113 = .ok (.putfield 161, 3) := by decide +kernel
theorem dX12_readsCondition_116 : decode cX12_readsCondition 116 = .ok (.aload_n 0, 1) := by decide +kernel
theorem dX12_readsCondition_117 : decode cX12_readsCondition 117 = .ok (.aload_n 0, 1) := by decide +kernel
theorem dX12_readsCondition_118 : decode cX12_readsCondition 118 = .ok (.getfield 158, 3) := by decide +kernel
theorem dX12_readsCondition_121 : decode cX12_readsCondition 121 = .ok (.iconst 1, 1) := by decide +kernel
theorem dX12_readsCondition_122 : decode cX12_readsCondition 122 = .ok (.isub, 1) := by decide +kernel
theorem dX12_readsCondition_123 : decode cX12_readsCondition 123 = .ok (.putfield 158, 3) := by decide +kernel
theorem dX12_readsCondition_126 : decode cX12_readsCondition 126 = .ok (.aload_n 0, 1) := by decide +kernel
theorem dX12_readsCondition_127 : decode cX12_readsCondition 127 = .ok (.aload_n 0, 1) := by decide +kernel
theorem dX12_readsCondition_128 : decode cX12_readsCondition 128 = .ok (.getfield 131, 3) := by decide +kernel
theorem dX12_readsCondition_131 : decode cX12_readsCondition 131 = .ok (.iconst 1, 1) := by decide +kernel
theorem dX12_readsCondition_132 : decode cX12_readsCondition 132 = .ok (.iadd, 1) := by decide +kernel
theorem dX12_readsCondition_133 : decode cX12_readsCondition 133 = .ok (.putfield 131, 3) := by decide +kernel
theorem dX12_readsCondition_136 : decode cX12_readsCondition 136 = .ok (.aload_n 0, 1) := by decide +kernel
theorem dX12_readsCondition_137 : decode cX12_readsCondition 137 = .ok (.getfield 161, 3) := by decide +kernel
theorem dX12_readsCondition_140 : decode cX12_readsCondition 140 = .ok (.ifCond .ne 5, 3) := by decide +kernel
theorem dX12_readsCondition_143 : decode cX12_readsCondition 143 = .ok (.iconst 1, 1) := by decide +kernel
theorem dX12_readsCondition_144 : decode cX12_readsCondition 144 = .ok (.ireturn, 1) := by decide +kernel
theorem dX12_readsCondition_145 : decode cX12_readsCondition 145 = .ok (.aload_n 0, 1) := by decide +kernel
theorem dX12_readsCondition_146 : decode cX12_readsCondition 146 = .ok (.invokevirtual 196, 3) := by decide +kernel
theorem dX12_readsCondition_149 : decode cX12_readsCondition 149 = .ok (.goto (-57), 3) := by decide +kernel
theorem dX12_readsCondition_152 : decode cX12_readsCondition 152 = .ok (.aload_n 0, 1) := by decide +kernel
theorem dX12_readsCondition_153 : decode cX12_readsCondition 153 = .ok (.invokevirtual 137, 3) := by decide +kernel
theorem dX12_readsCondition_156 : decode cX12_readsCondition 156 = .ok (.bipush 38, 2) := by decide +kernel
theorem dX12_readsCondition_158 : decode cX12_readsCondition 158 = .ok (.if_icmp .eq 22, 3) := by decide +kernel
theorem dX12_readsCondition_161 : decode cX12_readsCondition 161 = .ok (.aload_n 0, 1) := by decide +kernel
theorem dX12_readsCondition_162 : decode cX12_readsCondition 162 = .ok (.invokevirtual 137, 3) := by decide +kernel
theorem dX12_readsCondition_165 : decode cX12_readsCondition 165 = .ok (.bipush 124, 2) := by decide +kernel
theorem dX12_readsCondition_167 : decode cX12_readsCondition 167 = .ok (.if_icmp .eq 13, 3) := by decide +kernel
theorem dX12_readsCondition_170 : decode cX12_readsCondition 170 = .ok (.aload_n 0, 1) := by decide +kernel
theorem dX12_readsCondition_171 : decode cX12_readsCondition 171 = .ok (.iconst 1, 1) := by decide +kernel
theorem dX12_readsCondition_172 : decode cX12_readsCondition 172 = .ok (.aload_n 0, 1) := by decide +kernel
theorem dX12_readsCondition_173 : decode cX12_readsCondition 173 = .ok (.getfield 131, 3) := by decide +kernel
theorem dX12_readsCondition_176 : decode cX12_readsCondition 176 = .ok (.invokevirtual 144, 3) := by decide +kernel
theorem dX12_readsCondition_179 : decode cX12_readsCondition 179 = .ok (.ireturn, 1) := by decide +kernel
theorem dX12_readsCondition_180 : decode cX12_readsCondition 180 = .ok (.aload_n 0, 1) := by decide +kernel
theorem dX12_readsCondition_181 : decode cX12_readsCondition 181 = .ok (.aload_n 0, 1) := by decide +kernel
theorem dX12_readsCondition_182 : decode cX12_readsCondition 182 = .ok (.invokevirtual 137, 3) := by decide +kernel
theorem dX12_readsCondition_185 : decode cX12_readsCondition 185 = .ok (.bipush 124, 2) := by decide +kernel
theorem dX12_readsCondition_187 : decode cX12_readsCondition 187 = .ok (.if_icmp .ne 7, 3) := by decide +kernel
theorem dX12_readsCondition_190 : decode cX12_readsCondition 190 = .ok (.iconst 1, 1) := by decide +kernel
theorem dX12_readsCondition_191 : decode cX12_readsCondition 191 = .ok (.goto 4, 3) := by decide +kernel
theorem dX12_readsCondition_194 : decode cX12_readsCondition 194 = .ok (.iconst 0, 1) := by decide +kernel
theorem dX12_readsCondition_195 : decode cX12_readsCondition 195 = .ok (.invokevirtual 202, 3) := by decide +kernel
theorem dX12_readsCondition_198 : decode cX12_readsCondition 198 = .ok (.aload_n 0, 1) := by decide +kernel
theorem dX12_readsCondition_199 : decode cX12_readsCondition 199 = .ok (.aload_n 0, 1) := by decide +kernel
theorem dX12_readsCondition_200 : decode cX12_readsCondition 200 = .ok (.invokevirtual 137, 3) := by decide +kernel
theorem dX12_readsCondition_203 : decode cX12_readsCondition 203 = .ok (.bipush 38, 2) := by decide +kernel
theorem dX12_readsCondition_205 : decode cX12_readsCondition 205 = .ok (.if_icmp .ne 8, 3) := by decide +kernel
theorem dX12_readsCondition_208 : decode cX12_readsCondition 208 = .ok (.bipush 11, 2) := by decide +kernel
theorem dX12_readsCondition_210 : decode cX12_readsCondition 210 = .ok (.goto 5, 3) := by decide +kernel
theorem dX12_readsCondition_213 : decode cX12_readsCondition 213 = .ok (.bipush 12, 2) := by decide +kernel
theorem dX12_readsCondition_215 : decode cX12_readsCondition 215 = .ok (.invokevirtual 205, 3) := by decide +kernel
theorem dX12_readsCondition_218 : decode cX12_readsCondition 218 = .ok (.goto (-178), 3) := by decide +kernel
set_option maxRecDepth 20000 in
set_option maxHeartbeats 4000000 in
theorem m_readsCondition (E : xE) (l : Launch) (a : Nat → Nat) (cd : Cd) (hG : Good cd) (kf : Int32) (jn js jq : Lb) (ws : va_W) (hW : WX (okM E a cd kf jn js jq) ws) (tp pl le cm wt sm lm : Nat) (nu : Int32) (h0 : MO a cd kf ws tp pl le cm wt sm lm nu) (tf : Nat → Int32) (htf : ws[4]? = some (bA E (a 4) 260 tf)) (hpl : pl ≤ le) (fs : Nat → Int32) (hfs : ws[5]? = some (iA E (a 5) 260 fs)) (fw : Nat → Int32) (hfw : ws[6]? = some (iA E (a 6) 260 fw)) (hcm : cm ≤ pl) : xI E l yX12_readsCondition cX12_readsCondition 1 (some .boolean) 6 [.ref (a 0)] ws (fun r w => WX (okM E a cd kf jn js jq) w ∧ keeps ws w (fun q => q = 0 ∨ q = 5 ∨ q = 6) ∧ zb r ∧ ((r = 0 ∧ RF E a cd kf w tp le sm lm) ∨ (r = 1 ∧ ∃ (pl2 cm2 : Nat) (fs2 fw2 : Nat → Int32), pl < pl2 ∧ pl2 ≤ le ∧ RS E a cd kf w tp pl2 le cm2 0 sm lm fs2 fw2 ∧ cSeg fs2 cm cm2 ∧ cm2 ≤ pl2 ∧ ∀ k, k < cm → fs2 k = fs k))) := by
  refine xI_start (lv := [(0, .ref (a 0))]) RX12 (by decide) rfl (Nat.le_of_ble_eq_true rfl) rfl (fun p e s m below meth c A C hr hlk => ?_)
  have kp0 : keeps ws ws (fun q => q = 0 ∨ q = 5 ∨ q = 6) := keeps_rf
  obtain ⟨v1, v2, v3, v4, v5, v6, n7, n8, bo9, bo10, k11⟩ := h0
  refine x_aload_n C dX12_readsCondition_0 rfl 0 rfl rfl ?_
  refine x_vi C (As := []) (rest := []) (m_here E l a cd hG kf jn js jq ws hW tp pl le cm wt sm lm nu ⟨v1, v2, v3, v4, v5, v6, n7, n8, ⟨by omega, by omega, by omega, by omega, by omega, by omega, by omega⟩, ⟨by omega, by omega⟩, k11⟩ tf htf) mf_X12_here w_1317 0 k11 rfl rfl rfl (Nat.le_of_ble_eq_true rfl) ⟨(Nat.le_of_ble_eq_true rfl), (Nat.le_of_ble_eq_true rfl)⟩ ⟨(Nat.le_of_ble_eq_true rfl), (Nat.le_of_ble_eq_true rfl)⟩ dX12_readsCondition_1 rfl (fun r13 w14 h12 => ?_)
  obtain ⟨hW15, x16⟩ := h12
  refine x_ws hW15 ?_
  refine x_bipush C (v := 40) dX12_readsCondition_4 (by decide) rfl ?_
  refine x_icmp_eq C (tgt := 19) dX12_readsCondition_6 (by decide) rfl (fun c17 => ?_) (fun c17 => ?_)
  · skip
    have hp18 := hv_lt (x16.symm.trans c17) (by decide)
    refine x_aload_n C dX12_readsCondition_19 rfl 0 rfl rfl ?_
    refine x_iconst C (v := 0) dX12_readsCondition_20 (by decide) rfl ?_
    obtain ⟨w19, hw20⟩ : ∃ w : va_W, w = List.set ws 0 (ob (a 0) 11 [.ref (a 1), .ref (a 2), .ref (a 3), .ref (a 4), .int (nI tp), .int (nI pl), .int (nI le), .int v1, .int nu, .int 0, .int (nI cm), .int (nI wt), .int (nI sm), .int (nI (cd.2.2.2.2.2)), .ref (a 5), .ref (a 6), .ref (a 7), .ref (a 8), .ref (a 9), .ref (a 10), .ref (a 11), .ref (a 12), .ref (a 13), .ref (a 14), .ref (a 15), .ref (a 16), .ref (a 17), .int (nI lm), .ref (a 18), .ref (a 19), .ref (a 20), .ref (a 21), .int v3, .int v4, .int v5, .int v6, .int (nI n7), .int (nI n8), .ref (a 22), .ref (a 23), .ref (a 24), .ref (a 25), .ref (a 26), .ref (a 27), .ref (a 28), .ref (a 29), .ref (a 30), .int kf]) := ⟨_, rfl⟩
    refine x_put C (ci := 11) (k := 9) (ty := .int) 0 k11 rfl in_X12 tyX12 tyX12_ok nmX12 (by decide) w_1127 rfl rfl rfl rfl (Nat.le_of_ble_eq_true rfl) hw20.symm dX12_readsCondition_21 rfl ?_
    have hW21 : WX (okM E a cd kf jn js jq) w19 := by rw [hw20]; exact hW.set (k := 0) rfl ⟨tp, pl, le, v1, nu, (0 : Int32), cm, wt, sm, lm, v3, v4, v5, v6, n7, n8, by omega, by omega, by omega, by omega, by omega, by omega, by omega, by omega, by omega, rfl⟩
    have k22 : w19[0]? = some (ob (a 0) 11 [.ref (a 1), .ref (a 2), .ref (a 3), .ref (a 4), .int (nI tp), .int (nI pl), .int (nI le), .int v1, .int nu, .int 0, .int (nI cm), .int (nI wt), .int (nI sm), .int (nI (cd.2.2.2.2.2)), .ref (a 5), .ref (a 6), .ref (a 7), .ref (a 8), .ref (a 9), .ref (a 10), .ref (a 11), .ref (a 12), .ref (a 13), .ref (a 14), .ref (a 15), .ref (a 16), .ref (a 17), .int (nI lm), .ref (a 18), .ref (a 19), .ref (a 20), .ref (a 21), .int v3, .int v4, .int v5, .int v6, .int (nI n7), .int (nI n8), .ref (a 22), .ref (a 23), .ref (a 24), .ref (a 25), .ref (a 26), .ref (a 27), .ref (a 28), .ref (a 29), .ref (a 30), .int kf]) := by rw [hw20]; exact set_eq k11
    have k23 : w19[4]? = some (bA E (a 4) 260 tf) := by rw [hw20]; exact set_ne htf (by decide)
    have k24 : w19[5]? = some (iA E (a 5) 260 fs) := by rw [hw20]; exact set_ne hfs (by decide)
    have k25 : w19[6]? = some (iA E (a 6) 260 fw) := by rw [hw20]; exact set_ne hfw (by decide)
    have kp26 := keeps_set kp0 hw20 (by first | exact rfl | decide | omega | (dsimp only; omega))
    refine x_aload_n C dX12_readsCondition_24 rfl 0 rfl rfl ?_
    refine x_iconst C (v := 0) dX12_readsCondition_25 (by decide) rfl ?_
    obtain ⟨w27, hw28⟩ : ∃ w : va_W, w = List.set w19 0 (ob (a 0) 11 [.ref (a 1), .ref (a 2), .ref (a 3), .ref (a 4), .int (nI tp), .int (nI pl), .int (nI le), .int v1, .int nu, .int 0, .int (nI cm), .int 0, .int (nI sm), .int (nI (cd.2.2.2.2.2)), .ref (a 5), .ref (a 6), .ref (a 7), .ref (a 8), .ref (a 9), .ref (a 10), .ref (a 11), .ref (a 12), .ref (a 13), .ref (a 14), .ref (a 15), .ref (a 16), .ref (a 17), .int (nI lm), .ref (a 18), .ref (a 19), .ref (a 20), .ref (a 21), .int v3, .int v4, .int v5, .int v6, .int (nI n7), .int (nI n8), .ref (a 22), .ref (a 23), .ref (a 24), .ref (a 25), .ref (a 26), .ref (a 27), .ref (a 28), .ref (a 29), .ref (a 30), .int kf]) := ⟨_, rfl⟩
    refine x_put C (ci := 11) (k := 11) (ty := .int) 0 k22 rfl in_X12 tyX12 tyX12_ok nmX12 (by decide) w_1129 rfl rfl rfl rfl (Nat.le_of_ble_eq_true rfl) hw28.symm dX12_readsCondition_26 rfl ?_
    have hW29 : WX (okM E a cd kf jn js jq) w27 := by rw [hw28]; exact hW21.set (k := 0) rfl ⟨tp, pl, le, v1, nu, (0 : Int32), cm, 0, sm, lm, v3, v4, v5, v6, n7, n8, by omega, by omega, by omega, by omega, by omega, by omega, by omega, by omega, by omega, rfl⟩
    have k30 : w27[0]? = some (ob (a 0) 11 [.ref (a 1), .ref (a 2), .ref (a 3), .ref (a 4), .int (nI tp), .int (nI pl), .int (nI le), .int v1, .int nu, .int 0, .int (nI cm), .int 0, .int (nI sm), .int (nI (cd.2.2.2.2.2)), .ref (a 5), .ref (a 6), .ref (a 7), .ref (a 8), .ref (a 9), .ref (a 10), .ref (a 11), .ref (a 12), .ref (a 13), .ref (a 14), .ref (a 15), .ref (a 16), .ref (a 17), .int (nI lm), .ref (a 18), .ref (a 19), .ref (a 20), .ref (a 21), .int v3, .int v4, .int v5, .int v6, .int (nI n7), .int (nI n8), .ref (a 22), .ref (a 23), .ref (a 24), .ref (a 25), .ref (a 26), .ref (a 27), .ref (a 28), .ref (a 29), .ref (a 30), .int kf]) := by rw [hw28]; exact set_eq k22
    have k31 : w27[4]? = some (bA E (a 4) 260 tf) := by rw [hw28]; exact set_ne k23 (by decide)
    have k32 : w27[5]? = some (iA E (a 5) 260 fs) := by rw [hw28]; exact set_ne k24 (by decide)
    have k33 : w27[6]? = some (iA E (a 6) 260 fw) := by rw [hw28]; exact set_ne k25 (by decide)
    have kp34 := keeps_set kp26 hw28 (by first | exact rfl | decide | omega | (dsimp only; omega))
    refine x_aload_n C dX12_readsCondition_29 rfl 0 rfl rfl ?_
    refine x_bipush C (v := 13) dX12_readsCondition_30 (by decide) rfl ?_
    refine x_vi C (As := [.int 13]) (rest := []) (m_opens13 E l a cd hG kf jn js jq w27 hW29 tp pl le cm 0 sm lm nu ⟨v1, (0 : Int32), v3, v4, v5, v6, n7, n8, ⟨by omega, by omega, by omega, by omega, by omega, by omega, by omega⟩, ⟨by omega, by omega⟩, k30⟩ fw k33 (by omega) (by omega)) mf_X12_opens w_1336 0 k30 rfl rfl rfl (Nat.le_of_ble_eq_true rfl) ⟨(Nat.le_of_ble_eq_true rfl), (Nat.le_of_ble_eq_true rfl)⟩ ⟨(Nat.le_of_ble_eq_true rfl), (Nat.le_of_ble_eq_true rfl)⟩ dX12_readsCondition_32 rfl (fun r36 w37 h35 => ?_)
    obtain ⟨hW38, kq39, zb40, x41⟩ := h35
    have k42 : w37[4]? = some (bA E (a 4) 260 tf) := keeps_at kq39 k31 (by first | decide | omega | (dsimp only; omega))
    have k43 : w37[5]? = some (iA E (a 5) 260 fs) := keeps_at kq39 k32 (by first | decide | omega | (dsimp only; omega))
    have kp44 := keeps_tr kp34 kq39 (fun q hq => by first | omega | (dsimp only at *; omega))
    rcases x41 with ⟨e45, mo46, k47⟩ | ⟨e48, mo49, k50⟩
    · refine x_top e45 ?_
      obtain ⟨v51, v52, v53, v54, v55, v56, n57, n58, bo59, bo60, k61⟩ := mo46
      refine x_if_ne C (tgt := 40) dX12_readsCondition_35 (by decide) rfl (fun h => absurd h (by decide)) (fun _ => ?_)
      refine x_iconst C (v := 0) dX12_readsCondition_38 (by decide) rfl ?_
      exact x_zret C hr hlk rfl dX12_readsCondition_39 ⟨hW38, kp44, (Or.inl rfl), (Or.inl ⟨rfl, ⟨pl, cm, 0, _, _, ⟨⟨_, ⟨v51, v52, v53, v54, v55, v56, n57, n58, ⟨by omega, by omega, by omega, by omega, by omega, by omega, by omega⟩, ⟨by omega, by omega⟩, k61⟩⟩, k43, k47⟩⟩⟩)⟩
    · refine x_top e48 ?_
      obtain ⟨v62, v63, v64, v65, v66, v67, n68, n69, bo70, bo71, k72⟩ := mo49
      refine x_if_ne C (tgt := 40) dX12_readsCondition_35 (by decide) rfl (fun _ => ?_) (fun h => absurd h (by decide))
      have loop40 : ∀ (fu40 : Nat) (px : Nat) (cx : Nat) (wx : Nat) (nz : Int32) (fx : Nat → Int32) (gx : Nat → Int32) (Wx : WL) (wl40 : va_W), WX (okM E a cd kf jn js jq) wl40 → le - px < fu40 → MO a cd kf wl40 tp px le cx wx sm lm nz → wl40[4]? = some (bA E (a 4) 260 tf) → wl40[5]? = some (iA E (a 5) 260 fx) → wl40[6]? = some (iA E (a 6) 260 gx) → wR gx Wx wx → CI fx cm cx 0 Wx → cOps Wx → bot Wx → cx + wgt Wx ≤ px ∧ wx ≤ px ∧ pl < px ∧ px ≤ le → (∀ k, k < cm → fx k = fs k) → keeps ws wl40 (fun q => q = 0 ∨ q = 5 ∨ q = 6) → X E p l e (xRm 6 0 0) s m ([.ref (a 0)] : List Value).toArray below meth c A 1 0 0 (MQ below (va_Qi (fun r w => WX (okM E a cd kf jn js jq) w ∧ keeps ws w (fun q => q = 0 ∨ q = 5 ∨ q = 6) ∧ zb r ∧ ((r = 0 ∧ RF E a cd kf w tp le sm lm) ∨ (r = 1 ∧ ∃ (pl2 cm2 : Nat) (fs2 fw2 : Nat → Int32), pl < pl2 ∧ pl2 ≤ le ∧ RS E a cd kf w tp pl2 le cm2 0 sm lm fs2 fw2 ∧ cSeg fs2 cm cm2 ∧ cm2 ≤ pl2 ∧ ∀ k, k < cm → fs2 k = fs k))) (xB E A) A) ([.ref (a 0)] : List Value).toArray s 0 0 A) wl40 40 [(0, .ref (a 0))] [] := by
        intro fu40
        induction fu40 with
        | zero => intro px cx wx nz fx gx Wx wl40 _ q; omega
        | succ fu40 ih40 =>
          intro px cx wx nz fx gx Wx wl40 hWl40 me40 iv40_0 iv40_1 iv40_2 iv40_3 iv40_4 iv40_5 iv40_6 iv40_7 iv40_8 iv40_9 kq40
          obtain ⟨v73, v74, v75, v76, v77, v78, n79, n80, bo81, bo82, k83⟩ := iv40_0
          refine x_aload_n C dX12_readsCondition_40 rfl 0 rfl rfl ?_
          refine x_vi C (As := []) (rest := []) (m_here E l a cd hG kf jn js jq wl40 hWl40 tp px le cx wx sm lm nz ⟨v73, v74, v75, v76, v77, v78, n79, n80, ⟨by omega, by omega, by omega, by omega, by omega, by omega, by omega⟩, ⟨by omega, by omega⟩, k83⟩ tf iv40_1) mf_X12_here w_1317 0 k83 rfl rfl rfl (Nat.le_of_ble_eq_true rfl) ⟨(Nat.le_of_ble_eq_true rfl), (Nat.le_of_ble_eq_true rfl)⟩ ⟨(Nat.le_of_ble_eq_true rfl), (Nat.le_of_ble_eq_true rfl)⟩ dX12_readsCondition_41 rfl (fun r85 w86 h84 => ?_)
          obtain ⟨hW87, x88⟩ := h84
          refine x_ws hW87 ?_
          refine x_bipush C (v := 33) dX12_readsCondition_44 (by decide) rfl ?_
          refine x_icmp_eq C (tgt := 58) dX12_readsCondition_46 (by decide) rfl (fun c89 => ?_) (fun c89 => ?_)
          · skip
            have hp90 := hv_lt (x88.symm.trans c89) (by decide)
            refine x_aload_n C dX12_readsCondition_58 rfl 0 rfl rfl ?_
            refine x_aload_n C dX12_readsCondition_59 rfl 0 rfl rfl ?_
            refine x_vi C (As := []) (rest := [.ref (a 0)]) (m_here E l a cd hG kf jn js jq wl40 hWl40 tp px le cx wx sm lm nz ⟨v73, v74, v75, v76, v77, v78, n79, n80, ⟨by omega, by omega, by omega, by omega, by omega, by omega, by omega⟩, ⟨by omega, by omega⟩, k83⟩ tf iv40_1) mf_X12_here w_1317 0 k83 rfl rfl rfl (Nat.le_of_ble_eq_true rfl) ⟨(Nat.le_of_ble_eq_true rfl), (Nat.le_of_ble_eq_true rfl)⟩ ⟨(Nat.le_of_ble_eq_true rfl), (Nat.le_of_ble_eq_true rfl)⟩ dX12_readsCondition_60 rfl (fun r92 w93 h91 => ?_)
            obtain ⟨hW94, x95⟩ := h91
            refine x_ws hW94 ?_
            refine x_bipush C (v := 33) dX12_readsCondition_63 (by decide) rfl ?_
            refine x_icmp_ne C (tgt := 73) dX12_readsCondition_65 (by decide) rfl (fun c96 => ?_) (fun c96 => ?_)
            · skip
              refine x_bipush C (v := 13) dX12_readsCondition_73 (by decide) rfl ?_
              refine x_vi C (As := [.int 13]) (rest := []) (m_opens13 E l a cd hG kf jn js jq wl40 hWl40 tp px le cx wx sm lm nz ⟨v73, v74, v75, v76, v77, v78, n79, n80, ⟨by omega, by omega, by omega, by omega, by omega, by omega, by omega⟩, ⟨by omega, by omega⟩, k83⟩ gx iv40_3 (by omega) (by omega)) mf_X12_opens w_1336 0 k83 rfl rfl rfl (Nat.le_of_ble_eq_true rfl) ⟨(Nat.le_of_ble_eq_true rfl), (Nat.le_of_ble_eq_true rfl)⟩ ⟨(Nat.le_of_ble_eq_true rfl), (Nat.le_of_ble_eq_true rfl)⟩ dX12_readsCondition_75 rfl (fun r98 w99 h97 => ?_)
              obtain ⟨hW100, kq101, zb102, x103⟩ := h97
              have k104 : w99[4]? = some (bA E (a 4) 260 tf) := keeps_at kq101 iv40_1 (by first | decide | omega | (dsimp only; omega))
              have k105 : w99[5]? = some (iA E (a 5) 260 fx) := keeps_at kq101 iv40_2 (by first | decide | omega | (dsimp only; omega))
              have kp106 := keeps_tr kq40 kq101 (fun q hq => by first | omega | (dsimp only at *; omega))
              rcases x103 with ⟨e107, mo108, k109⟩ | ⟨e110, mo111, k112⟩
              · refine x_top e107 ?_
                obtain ⟨v113, v114, v115, v116, v117, v118, n119, n120, bo121, bo122, k123⟩ := mo108
                refine x_if_ne C (tgt := 40) dX12_readsCondition_78 (by decide) rfl (fun h => absurd h (by decide)) (fun _ => ?_)
                refine x_iconst C (v := 0) dX12_readsCondition_81 (by decide) rfl ?_
                exact x_zret C hr hlk rfl dX12_readsCondition_82 ⟨hW100, kp106, (Or.inl rfl), (Or.inl ⟨rfl, ⟨px, cx, wx, _, _, ⟨⟨_, ⟨v113, v114, v115, v116, v117, v118, n119, n120, ⟨by omega, by omega, by omega, by omega, by omega, by omega, by omega⟩, ⟨by omega, by omega⟩, k123⟩⟩, k105, k109⟩⟩⟩)⟩
              · refine x_top e110 ?_
                obtain ⟨v124, v125, v126, v127, v128, v129, n130, n131, bo132, bo133, k134⟩ := mo111
                refine x_if_ne C (tgt := 40) dX12_readsCondition_78 (by decide) rfl (fun _ => ?_) (fun h => absurd h (by decide))
                refine x_lv (lv1 := [(0, .ref (a 0))]) [0] rfl ?_
                exact ih40 (px + 1) cx (wx + 1) nz fx ((upd gx wx (nI (1048576 * 13 + 0)))) (((13, 0) :: Wx)) w99 hW100 (by omega) ⟨v124, v125, v126, v127, v128, v129, n130, n131, ⟨by omega, by omega, by omega, by omega, by omega, by omega, by omega⟩, ⟨by omega, by omega⟩, k134⟩ k104 k105 k112 (wR_push (op := 13) (pay := 0) iv40_4 (by omega) (by omega)) (CI_push (e := (13, 0)) iv40_5 (nJ ⟨by decide, by decide⟩)) (cOps_cons (e := (13, 0)) ⟨by decide, by decide⟩ iv40_6) (bot_push iv40_7) (by rw [wgt_hd0 (e := (13, 0)) (by decide)]; omega) iv40_9 kp106
            · skip
              have hp135 := hv_lt (x95.symm.trans c96) (by decide)
              refine x_bipush C (v := 10) dX12_readsCondition_68 (by decide) rfl ?_
              refine x_goto C (tgt := 75) dX12_readsCondition_70 (by decide) ?_
              refine x_vi C (As := [.int 10]) (rest := []) (m_opens10 E l a cd hG kf jn js jq wl40 hWl40 tp px le cx wx sm lm nz ⟨v73, v74, v75, v76, v77, v78, n79, n80, ⟨by omega, by omega, by omega, by omega, by omega, by omega, by omega⟩, ⟨by omega, by omega⟩, k83⟩ gx iv40_3 (by omega) (by omega)) mf_X12_opens w_1336 0 k83 rfl rfl rfl (Nat.le_of_ble_eq_true rfl) ⟨(Nat.le_of_ble_eq_true rfl), (Nat.le_of_ble_eq_true rfl)⟩ ⟨(Nat.le_of_ble_eq_true rfl), (Nat.le_of_ble_eq_true rfl)⟩ dX12_readsCondition_75 rfl (fun r137 w138 h136 => ?_)
              obtain ⟨hW139, kq140, zb141, x142⟩ := h136
              have k143 : w138[4]? = some (bA E (a 4) 260 tf) := keeps_at kq140 iv40_1 (by first | decide | omega | (dsimp only; omega))
              have k144 : w138[5]? = some (iA E (a 5) 260 fx) := keeps_at kq140 iv40_2 (by first | decide | omega | (dsimp only; omega))
              have kp145 := keeps_tr kq40 kq140 (fun q hq => by first | omega | (dsimp only at *; omega))
              rcases x142 with ⟨e146, mo147, k148⟩ | ⟨e149, mo150, k151⟩
              · refine x_top e146 ?_
                obtain ⟨v152, v153, v154, v155, v156, v157, n158, n159, bo160, bo161, k162⟩ := mo147
                refine x_if_ne C (tgt := 40) dX12_readsCondition_78 (by decide) rfl (fun h => absurd h (by decide)) (fun _ => ?_)
                refine x_iconst C (v := 0) dX12_readsCondition_81 (by decide) rfl ?_
                exact x_zret C hr hlk rfl dX12_readsCondition_82 ⟨hW139, kp145, (Or.inl rfl), (Or.inl ⟨rfl, ⟨px, cx, wx, _, _, ⟨⟨_, ⟨v152, v153, v154, v155, v156, v157, n158, n159, ⟨by omega, by omega, by omega, by omega, by omega, by omega, by omega⟩, ⟨by omega, by omega⟩, k162⟩⟩, k144, k148⟩⟩⟩)⟩
              · refine x_top e149 ?_
                obtain ⟨v163, v164, v165, v166, v167, v168, n169, n170, bo171, bo172, k173⟩ := mo150
                refine x_if_ne C (tgt := 40) dX12_readsCondition_78 (by decide) rfl (fun _ => ?_) (fun h => absurd h (by decide))
                refine x_lv (lv1 := [(0, .ref (a 0))]) [0] rfl ?_
                exact ih40 (px + 1) cx (wx + 1) nz fx ((upd gx wx (nI (1048576 * 10 + 0)))) (((10, 0) :: Wx)) w138 hW139 (by omega) ⟨v163, v164, v165, v166, v167, v168, n169, n170, ⟨by omega, by omega, by omega, by omega, by omega, by omega, by omega⟩, ⟨by omega, by omega⟩, k173⟩ k143 k144 k151 (wR_push (op := 10) (pay := 0) iv40_4 (by omega) (by omega)) (CI_push (e := (10, 0)) iv40_5 (nJ ⟨by decide, by decide⟩)) (cOps_cons (e := (10, 0)) ⟨by decide, by decide⟩ iv40_6) (bot_push iv40_7) (by rw [wgt_hd1 (e := (10, 0)) (by decide)]; omega) iv40_9 kp145
          · skip
            refine x_aload_n C dX12_readsCondition_49 rfl 0 rfl rfl ?_
            refine x_vi C (As := []) (rest := []) (m_here E l a cd hG kf jn js jq wl40 hWl40 tp px le cx wx sm lm nz ⟨v73, v74, v75, v76, v77, v78, n79, n80, ⟨by omega, by omega, by omega, by omega, by omega, by omega, by omega⟩, ⟨by omega, by omega⟩, k83⟩ tf iv40_1) mf_X12_here w_1317 0 k83 rfl rfl rfl (Nat.le_of_ble_eq_true rfl) ⟨(Nat.le_of_ble_eq_true rfl), (Nat.le_of_ble_eq_true rfl)⟩ ⟨(Nat.le_of_ble_eq_true rfl), (Nat.le_of_ble_eq_true rfl)⟩ dX12_readsCondition_50 rfl (fun r175 w176 h174 => ?_)
            obtain ⟨hW177, x178⟩ := h174
            refine x_ws hW177 ?_
            refine x_bipush C (v := 40) dX12_readsCondition_53 (by decide) rfl ?_
            refine x_icmp_ne C (tgt := 83) dX12_readsCondition_55 (by decide) rfl (fun c179 => ?_) (fun c179 => ?_)
            · skip
              refine x_aload_n C dX12_readsCondition_83 rfl 0 rfl rfl ?_
              refine x_vi C (As := []) (rest := []) (m_readsCompared E l a cd hG kf jn js jq wl40 hWl40 tp px le cx wx sm lm nz ⟨v73, v74, v75, v76, v77, v78, n79, n80, ⟨by omega, by omega, by omega, by omega, by omega, by omega, by omega⟩, ⟨by omega, by omega⟩, k83⟩ tf iv40_1 (by omega) fx iv40_2 gx iv40_3 Wx iv40_4 cm iv40_5 iv40_6 iv40_7 (by omega) (by omega)) mf_X12_readsCompared w_1375 0 k83 rfl rfl rfl (Nat.le_of_ble_eq_true rfl) ⟨(Nat.le_of_ble_eq_true rfl), (Nat.le_of_ble_eq_true rfl)⟩ ⟨(Nat.le_of_ble_eq_true rfl), (Nat.le_of_ble_eq_true rfl)⟩ dX12_readsCondition_84 rfl (fun r181 w182 h180 => ?_)
              obtain ⟨hW183, kq184, zb185, x186⟩ := h180
              have k187 : w182[4]? = some (bA E (a 4) 260 tf) := keeps_at kq184 iv40_1 (by first | decide | omega | (dsimp only; omega))
              have kp188 := keeps_tr kq40 kq184 (fun q hq => by first | omega | (dsimp only at *; omega))
              rcases x186 with ⟨e189, rf190⟩ | ⟨e191, pl192, cm193, wt194, fs195, fw196, We197, hs198, hs199, hs200, hs201, hs202, hs203, hs204, hs205, hs206, hs207⟩
              · refine x_top e189 ?_
                obtain ⟨pl208, cm209, wt210, fs211, fw212, rs213⟩ := rf190
                obtain ⟨⟨nu214, mo215⟩, k216, k217⟩ := rs213
                obtain ⟨v218, v219, v220, v221, v222, v223, n224, n225, bo226, bo227, k228⟩ := mo215
                refine x_if_ne C (tgt := 92) dX12_readsCondition_87 (by decide) rfl (fun h => absurd h (by decide)) (fun _ => ?_)
                refine x_iconst C (v := 0) dX12_readsCondition_90 (by decide) rfl ?_
                exact x_zret C hr hlk rfl dX12_readsCondition_91 ⟨hW183, kp188, (Or.inl rfl), (Or.inl ⟨rfl, ⟨pl208, cm209, wt210, _, _, ⟨⟨_, ⟨v218, v219, v220, v221, v222, v223, n224, n225, ⟨by omega, by omega, by omega, by omega, by omega, by omega, by omega⟩, ⟨by omega, by omega⟩, k228⟩⟩, k216, k217⟩⟩⟩)⟩
              · refine x_top e191 ?_
                obtain ⟨⟨nu229, mo230⟩, k231, k232⟩ := hs202
                obtain ⟨v233, v234, v235, v236, v237, v238, n239, n240, bo241, bo242, k243⟩ := mo230
                refine x_if_ne C (tgt := 92) dX12_readsCondition_87 (by decide) rfl (fun _ => ?_) (fun h => absurd h (by decide))
                have loop92 : ∀ (fu92 : Nat) (py : Nat) (cy : Nat) (wy : Nat) (ny : Int32) (fy : Nat → Int32) (gy : Nat → Int32) (Wy : WL) (wl92 : va_W), WX (okM E a cd kf jn js jq) wl92 → le - py < fu92 → MO a cd kf wl92 tp py le cy wy sm lm ny → wl92[4]? = some (bA E (a 4) 260 tf) → wl92[5]? = some (iA E (a 5) 260 fy) → wl92[6]? = some (iA E (a 6) 260 gy) → wR gy Wy wy → CI fy cm cy 1 Wy → cOps Wy → bot Wy → cy + wgt Wy ≤ py ∧ wy ≤ py ∧ pl < py ∧ py ≤ le ∧ px < py → (∀ k, k < cm → fy k = fs k) → keeps ws wl92 (fun q => q = 0 ∨ q = 5 ∨ q = 6) → X E p l e (xRm 6 0 0) s m ([.ref (a 0)] : List Value).toArray below meth c A 1 0 0 (MQ below (va_Qi (fun r w => WX (okM E a cd kf jn js jq) w ∧ keeps ws w (fun q => q = 0 ∨ q = 5 ∨ q = 6) ∧ zb r ∧ ((r = 0 ∧ RF E a cd kf w tp le sm lm) ∨ (r = 1 ∧ ∃ (pl2 cm2 : Nat) (fs2 fw2 : Nat → Int32), pl < pl2 ∧ pl2 ≤ le ∧ RS E a cd kf w tp pl2 le cm2 0 sm lm fs2 fw2 ∧ cSeg fs2 cm cm2 ∧ cm2 ≤ pl2 ∧ ∀ k, k < cm → fs2 k = fs k))) (xB E A) A) ([.ref (a 0)] : List Value).toArray s 0 0 A) wl92 92 [(0, .ref (a 0))] [] := by
                  intro fu92
                  induction fu92 with
                  | zero => intro py cy wy ny fy gy Wy wl92 _ q; omega
                  | succ fu92 ih92 =>
                    intro py cy wy ny fy gy Wy wl92 hWl92 me92 iv92_0 iv92_1 iv92_2 iv92_3 iv92_4 iv92_5 iv92_6 iv92_7 iv92_8 iv92_9 kq92
                    obtain ⟨v244, v245, v246, v247, v248, v249, n250, n251, bo252, bo253, k254⟩ := iv92_0
                    refine x_aload_n C dX12_readsCondition_92 rfl 0 rfl rfl ?_
                    refine x_vi C (As := []) (rest := []) (m_here E l a cd hG kf jn js jq wl92 hWl92 tp py le cy wy sm lm ny ⟨v244, v245, v246, v247, v248, v249, n250, n251, ⟨by omega, by omega, by omega, by omega, by omega, by omega, by omega⟩, ⟨by omega, by omega⟩, k254⟩ tf iv92_1) mf_X12_here w_1317 0 k254 rfl rfl rfl (Nat.le_of_ble_eq_true rfl) ⟨(Nat.le_of_ble_eq_true rfl), (Nat.le_of_ble_eq_true rfl)⟩ ⟨(Nat.le_of_ble_eq_true rfl), (Nat.le_of_ble_eq_true rfl)⟩ dX12_readsCondition_93 rfl (fun r256 w257 h255 => ?_)
                    obtain ⟨hW258, x259⟩ := h255
                    refine x_ws hW258 ?_
                    refine x_bipush C (v := 41) dX12_readsCondition_96 (by decide) rfl ?_
                    refine x_icmp_ne C (tgt := 152) dX12_readsCondition_98 (by decide) rfl (fun c260 => ?_) (fun c260 => ?_)
                    · skip
                      refine x_aload_n C dX12_readsCondition_152 rfl 0 rfl rfl ?_
                      refine x_vi C (As := []) (rest := []) (m_here E l a cd hG kf jn js jq wl92 hWl92 tp py le cy wy sm lm ny ⟨v244, v245, v246, v247, v248, v249, n250, n251, ⟨by omega, by omega, by omega, by omega, by omega, by omega, by omega⟩, ⟨by omega, by omega⟩, k254⟩ tf iv92_1) mf_X12_here w_1317 0 k254 rfl rfl rfl (Nat.le_of_ble_eq_true rfl) ⟨(Nat.le_of_ble_eq_true rfl), (Nat.le_of_ble_eq_true rfl)⟩ ⟨(Nat.le_of_ble_eq_true rfl), (Nat.le_of_ble_eq_true rfl)⟩ dX12_readsCondition_153 rfl (fun r262 w263 h261 => ?_)
                      obtain ⟨hW264, x265⟩ := h261
                      refine x_ws hW264 ?_
                      refine x_bipush C (v := 38) dX12_readsCondition_156 (by decide) rfl ?_
                      refine x_icmp_eq C (tgt := 180) dX12_readsCondition_158 (by decide) rfl (fun c266 => ?_) (fun c266 => ?_)
                      · skip
                        have hp267 := hv_lt (x265.symm.trans c266) (by decide)
                        refine x_aload_n C dX12_readsCondition_180 rfl 0 rfl rfl ?_
                        refine x_aload_n C dX12_readsCondition_181 rfl 0 rfl rfl ?_
                        refine x_vi C (As := []) (rest := [.ref (a 0)]) (m_here E l a cd hG kf jn js jq wl92 hWl92 tp py le cy wy sm lm ny ⟨v244, v245, v246, v247, v248, v249, n250, n251, ⟨by omega, by omega, by omega, by omega, by omega, by omega, by omega⟩, ⟨by omega, by omega⟩, k254⟩ tf iv92_1) mf_X12_here w_1317 0 k254 rfl rfl rfl (Nat.le_of_ble_eq_true rfl) ⟨(Nat.le_of_ble_eq_true rfl), (Nat.le_of_ble_eq_true rfl)⟩ ⟨(Nat.le_of_ble_eq_true rfl), (Nat.le_of_ble_eq_true rfl)⟩ dX12_readsCondition_182 rfl (fun r269 w270 h268 => ?_)
                        obtain ⟨hW271, x272⟩ := h268
                        refine x_ws hW271 ?_
                        refine x_bipush C (v := 124) dX12_readsCondition_185 (by decide) rfl ?_
                        refine x_icmp_ne C (tgt := 194) dX12_readsCondition_187 (by decide) rfl (fun c273 => ?_) (fun c273 => ?_)
                        · skip
                          refine x_iconst C (v := 0) dX12_readsCondition_194 (by decide) rfl ?_
                          refine x_vv C (As := [.int 0]) (rest := []) (m_lands0 E l a cd hG kf jn js jq wl92 hWl92 tp py le cy wy sm lm ny ⟨v244, v245, v246, v247, v248, v249, n250, n251, ⟨by omega, by omega, by omega, by omega, by omega, by omega, by omega⟩, ⟨by omega, by omega⟩, k254⟩ fy iv92_2 gy iv92_3 Wy iv92_4 cm iv92_5 iv92_6 iv92_7 (by omega)) mf_X12_lands w_1383 0 k254 rfl rfl rfl (Nat.le_of_ble_eq_true rfl) ⟨(Nat.le_of_ble_eq_true rfl), (Nat.le_of_ble_eq_true rfl)⟩ ⟨(Nat.le_of_ble_eq_true rfl), (Nat.le_of_ble_eq_true rfl)⟩ dX12_readsCondition_195 rfl (fun w276 h274 => ?_)
                          obtain ⟨hW277, kq278, x279⟩ := h274
                          have k280 : w276[4]? = some (bA E (a 4) 260 tf) := keeps_at kq278 iv92_1 (by first | decide | omega | (dsimp only; omega))
                          have k281 : w276[6]? = some (iA E (a 6) 260 gy) := keeps_at kq278 iv92_3 (by first | decide | omega | (dsimp only; omega))
                          have kp282 := keeps_tr kq92 kq278 (fun q hq => by first | omega | (dsimp only at *; omega))
                          obtain ⟨wt283, fs284, We285, hc286, hc287, hc288, hc289, hc290, hc291, hc292, hc293, hc294⟩ := x279
                          obtain ⟨v295, v296, v297, v298, v299, v300, n301, n302, bo303, bo304, k305⟩ := hc288
                          refine x_aload_n C dX12_readsCondition_198 rfl 0 rfl rfl ?_
                          refine x_aload_n C dX12_readsCondition_199 rfl 0 rfl rfl ?_
                          refine x_vi C (As := []) (rest := [.ref (a 0)]) (m_here E l a cd hG kf jn js jq w276 hW277 tp py le cy wt283 sm lm ny ⟨v295, v296, v297, v298, v299, v300, n301, n302, ⟨by omega, by omega, by omega, by omega, by omega, by omega, by omega⟩, ⟨by omega, by omega⟩, k305⟩ tf k280) mf_X12_here w_1317 0 k305 rfl rfl rfl (Nat.le_of_ble_eq_true rfl) ⟨(Nat.le_of_ble_eq_true rfl), (Nat.le_of_ble_eq_true rfl)⟩ ⟨(Nat.le_of_ble_eq_true rfl), (Nat.le_of_ble_eq_true rfl)⟩ dX12_readsCondition_200 rfl (fun r307 w308 h306 => ?_)
                          obtain ⟨hW309, x310⟩ := h306
                          refine x_ws hW309 ?_
                          refine x_bipush C (v := 38) dX12_readsCondition_203 (by decide) rfl ?_
                          refine x_icmp_ne C (tgt := 213) dX12_readsCondition_205 (by decide) rfl (fun c311 => ?_) (fun c311 => ?_)
                          · skip
                            refine x_bipush C (v := 12) dX12_readsCondition_213 (by decide) rfl ?_
                            refine x_vv C (As := [.int 12]) (rest := []) (m_jumps12 E l a cd hG kf jn js jq w276 hW277 tp py le cy wt283 sm lm ny ⟨v295, v296, v297, v298, v299, v300, n301, n302, ⟨by omega, by omega, by omega, by omega, by omega, by omega, by omega⟩, ⟨by omega, by omega⟩, k305⟩ fs284 hc289 gy k281 (by omega) (by omega) (by omega)) mf_X12_jumps w_1387 0 k305 rfl rfl rfl (Nat.le_of_ble_eq_true rfl) ⟨(Nat.le_of_ble_eq_true rfl), (Nat.le_of_ble_eq_true rfl)⟩ ⟨(Nat.le_of_ble_eq_true rfl), (Nat.le_of_ble_eq_true rfl)⟩ dX12_readsCondition_215 rfl (fun w314 h312 => ?_)
                            obtain ⟨hW315, kq316, x317⟩ := h312
                            have k318 : w314[4]? = some (bA E (a 4) 260 tf) := keeps_at kq316 k280 (by first | decide | omega | (dsimp only; omega))
                            have kp319 := keeps_tr kp282 kq316 (fun q hq => by first | omega | (dsimp only at *; omega))
                            obtain ⟨hj320, hj321, hj322⟩ := x317
                            obtain ⟨v323, v324, v325, v326, v327, v328, n329, n330, bo331, bo332, k333⟩ := hj320
                            refine x_goto C (tgt := 40) dX12_readsCondition_218 (by decide) ?_
                            refine x_lv (lv1 := [(0, .ref (a 0))]) [0] rfl ?_
                            exact ih40 (py + 1) (cy + 1) (wt283 + 1) ny ((upd fs284 cy (nI (1048576 * 12 + 0)))) ((upd gy wt283 (nI (1048576 * 12 + cy)))) (((12, cy) :: We285)) w314 hW315 (by omega) ⟨v323, v324, v325, v326, v327, v328, n329, n330, ⟨by omega, by omega, by omega, by omega, by omega, by omega, by omega⟩, ⟨by omega, by omega⟩, k333⟩ k318 hj321 hj322 (wR_push (op := 12) (pay := cy) hc286 (by omega) (by omega)) (CI_jump hc290 (Or.inr rfl)) (cOps_cons (e := (12, cy)) ⟨by show 10 ≤ 12; omega, by show 12 ≤ 13; omega⟩ hc291) (bot_push hc292) (by rw [wgt_hd0 (e := (12, cy)) (by show ¬ ((2 ≤ 12 ∧ 12 ≤ 6) ∨ 12 = 10); omega)]; omega) (ag_upd (fun k hk => (hc294 k hk).trans (iv92_9 k hk)) (CI_le hc290)) kp319
                          · skip
                            have hp334 := hv_lt (x310.symm.trans c311) (by decide)
                            refine x_bipush C (v := 11) dX12_readsCondition_208 (by decide) rfl ?_
                            refine x_goto C (tgt := 215) dX12_readsCondition_210 (by decide) ?_
                            refine x_vv C (As := [.int 11]) (rest := []) (m_jumps11 E l a cd hG kf jn js jq w276 hW277 tp py le cy wt283 sm lm ny ⟨v295, v296, v297, v298, v299, v300, n301, n302, ⟨by omega, by omega, by omega, by omega, by omega, by omega, by omega⟩, ⟨by omega, by omega⟩, k305⟩ fs284 hc289 gy k281 (by omega) (by omega) (by omega)) mf_X12_jumps w_1387 0 k305 rfl rfl rfl (Nat.le_of_ble_eq_true rfl) ⟨(Nat.le_of_ble_eq_true rfl), (Nat.le_of_ble_eq_true rfl)⟩ ⟨(Nat.le_of_ble_eq_true rfl), (Nat.le_of_ble_eq_true rfl)⟩ dX12_readsCondition_215 rfl (fun w337 h335 => ?_)
                            obtain ⟨hW338, kq339, x340⟩ := h335
                            have k341 : w337[4]? = some (bA E (a 4) 260 tf) := keeps_at kq339 k280 (by first | decide | omega | (dsimp only; omega))
                            have kp342 := keeps_tr kp282 kq339 (fun q hq => by first | omega | (dsimp only at *; omega))
                            obtain ⟨hj343, hj344, hj345⟩ := x340
                            obtain ⟨v346, v347, v348, v349, v350, v351, n352, n353, bo354, bo355, k356⟩ := hj343
                            refine x_goto C (tgt := 40) dX12_readsCondition_218 (by decide) ?_
                            refine x_lv (lv1 := [(0, .ref (a 0))]) [0] rfl ?_
                            exact ih40 (py + 1) (cy + 1) (wt283 + 1) ny ((upd fs284 cy (nI (1048576 * 11 + 0)))) ((upd gy wt283 (nI (1048576 * 11 + cy)))) (((11, cy) :: We285)) w337 hW338 (by omega) ⟨v346, v347, v348, v349, v350, v351, n352, n353, ⟨by omega, by omega, by omega, by omega, by omega, by omega, by omega⟩, ⟨by omega, by omega⟩, k356⟩ k341 hj344 hj345 (wR_push (op := 11) (pay := cy) hc286 (by omega) (by omega)) (CI_jump hc290 (Or.inl rfl)) (cOps_cons (e := (11, cy)) ⟨by show 10 ≤ 11; omega, by show 11 ≤ 13; omega⟩ hc291) (bot_push hc292) (by rw [wgt_hd0 (e := (11, cy)) (by show ¬ ((2 ≤ 11 ∧ 11 ≤ 6) ∨ 11 = 10); omega)]; omega) (ag_upd (fun k hk => (hc294 k hk).trans (iv92_9 k hk)) (CI_le hc290)) kp342
                        · skip
                          have hp357 := hv_lt (x272.symm.trans c273) (by decide)
                          refine x_iconst C (v := 1) dX12_readsCondition_190 (by decide) rfl ?_
                          refine x_goto C (tgt := 195) dX12_readsCondition_191 (by decide) ?_
                          refine x_vv C (As := [.int 1]) (rest := []) (m_lands1 E l a cd hG kf jn js jq wl92 hWl92 tp py le cy wy sm lm ny ⟨v244, v245, v246, v247, v248, v249, n250, n251, ⟨by omega, by omega, by omega, by omega, by omega, by omega, by omega⟩, ⟨by omega, by omega⟩, k254⟩ fy iv92_2 gy iv92_3 Wy iv92_4 cm iv92_5 iv92_6 iv92_7 (by omega)) mf_X12_lands w_1383 0 k254 rfl rfl rfl (Nat.le_of_ble_eq_true rfl) ⟨(Nat.le_of_ble_eq_true rfl), (Nat.le_of_ble_eq_true rfl)⟩ ⟨(Nat.le_of_ble_eq_true rfl), (Nat.le_of_ble_eq_true rfl)⟩ dX12_readsCondition_195 rfl (fun w360 h358 => ?_)
                          obtain ⟨hW361, kq362, x363⟩ := h358
                          have k364 : w360[4]? = some (bA E (a 4) 260 tf) := keeps_at kq362 iv92_1 (by first | decide | omega | (dsimp only; omega))
                          have k365 : w360[6]? = some (iA E (a 6) 260 gy) := keeps_at kq362 iv92_3 (by first | decide | omega | (dsimp only; omega))
                          have kp366 := keeps_tr kq92 kq362 (fun q hq => by first | omega | (dsimp only at *; omega))
                          obtain ⟨wt367, fs368, We369, hc370, hc371, hc372, hc373, hc374, hc375, hc376, hc377, hc378, hc379⟩ := x363
                          obtain ⟨v380, v381, v382, v383, v384, v385, n386, n387, bo388, bo389, k390⟩ := hc372
                          refine x_aload_n C dX12_readsCondition_198 rfl 0 rfl rfl ?_
                          refine x_aload_n C dX12_readsCondition_199 rfl 0 rfl rfl ?_
                          refine x_vi C (As := []) (rest := [.ref (a 0)]) (m_here E l a cd hG kf jn js jq w360 hW361 tp py le cy wt367 sm lm ny ⟨v380, v381, v382, v383, v384, v385, n386, n387, ⟨by omega, by omega, by omega, by omega, by omega, by omega, by omega⟩, ⟨by omega, by omega⟩, k390⟩ tf k364) mf_X12_here w_1317 0 k390 rfl rfl rfl (Nat.le_of_ble_eq_true rfl) ⟨(Nat.le_of_ble_eq_true rfl), (Nat.le_of_ble_eq_true rfl)⟩ ⟨(Nat.le_of_ble_eq_true rfl), (Nat.le_of_ble_eq_true rfl)⟩ dX12_readsCondition_200 rfl (fun r392 w393 h391 => ?_)
                          obtain ⟨hW394, x395⟩ := h391
                          refine x_ws hW394 ?_
                          refine x_bipush C (v := 38) dX12_readsCondition_203 (by decide) rfl ?_
                          refine x_icmp_ne C (tgt := 213) dX12_readsCondition_205 (by decide) rfl (fun c396 => ?_) (fun c396 => ?_)
                          · skip
                            refine x_bipush C (v := 12) dX12_readsCondition_213 (by decide) rfl ?_
                            refine x_vv C (As := [.int 12]) (rest := []) (m_jumps12 E l a cd hG kf jn js jq w360 hW361 tp py le cy wt367 sm lm ny ⟨v380, v381, v382, v383, v384, v385, n386, n387, ⟨by omega, by omega, by omega, by omega, by omega, by omega, by omega⟩, ⟨by omega, by omega⟩, k390⟩ fs368 hc373 gy k365 (by omega) (by omega) (by omega)) mf_X12_jumps w_1387 0 k390 rfl rfl rfl (Nat.le_of_ble_eq_true rfl) ⟨(Nat.le_of_ble_eq_true rfl), (Nat.le_of_ble_eq_true rfl)⟩ ⟨(Nat.le_of_ble_eq_true rfl), (Nat.le_of_ble_eq_true rfl)⟩ dX12_readsCondition_215 rfl (fun w399 h397 => ?_)
                            obtain ⟨hW400, kq401, x402⟩ := h397
                            have k403 : w399[4]? = some (bA E (a 4) 260 tf) := keeps_at kq401 k364 (by first | decide | omega | (dsimp only; omega))
                            have kp404 := keeps_tr kp366 kq401 (fun q hq => by first | omega | (dsimp only at *; omega))
                            obtain ⟨hj405, hj406, hj407⟩ := x402
                            obtain ⟨v408, v409, v410, v411, v412, v413, n414, n415, bo416, bo417, k418⟩ := hj405
                            refine x_goto C (tgt := 40) dX12_readsCondition_218 (by decide) ?_
                            refine x_lv (lv1 := [(0, .ref (a 0))]) [0] rfl ?_
                            exact ih40 (py + 1) (cy + 1) (wt367 + 1) ny ((upd fs368 cy (nI (1048576 * 12 + 0)))) ((upd gy wt367 (nI (1048576 * 12 + cy)))) (((12, cy) :: We369)) w399 hW400 (by omega) ⟨v408, v409, v410, v411, v412, v413, n414, n415, ⟨by omega, by omega, by omega, by omega, by omega, by omega, by omega⟩, ⟨by omega, by omega⟩, k418⟩ k403 hj406 hj407 (wR_push (op := 12) (pay := cy) hc370 (by omega) (by omega)) (CI_jump hc374 (Or.inr rfl)) (cOps_cons (e := (12, cy)) ⟨by show 10 ≤ 12; omega, by show 12 ≤ 13; omega⟩ hc375) (bot_push hc376) (by rw [wgt_hd0 (e := (12, cy)) (by show ¬ ((2 ≤ 12 ∧ 12 ≤ 6) ∨ 12 = 10); omega)]; omega) (ag_upd (fun k hk => (hc378 k hk).trans (iv92_9 k hk)) (CI_le hc374)) kp404
                          · skip
                            have hp419 := hv_lt (x395.symm.trans c396) (by decide)
                            refine x_bipush C (v := 11) dX12_readsCondition_208 (by decide) rfl ?_
                            refine x_goto C (tgt := 215) dX12_readsCondition_210 (by decide) ?_
                            refine x_vv C (As := [.int 11]) (rest := []) (m_jumps11 E l a cd hG kf jn js jq w360 hW361 tp py le cy wt367 sm lm ny ⟨v380, v381, v382, v383, v384, v385, n386, n387, ⟨by omega, by omega, by omega, by omega, by omega, by omega, by omega⟩, ⟨by omega, by omega⟩, k390⟩ fs368 hc373 gy k365 (by omega) (by omega) (by omega)) mf_X12_jumps w_1387 0 k390 rfl rfl rfl (Nat.le_of_ble_eq_true rfl) ⟨(Nat.le_of_ble_eq_true rfl), (Nat.le_of_ble_eq_true rfl)⟩ ⟨(Nat.le_of_ble_eq_true rfl), (Nat.le_of_ble_eq_true rfl)⟩ dX12_readsCondition_215 rfl (fun w422 h420 => ?_)
                            obtain ⟨hW423, kq424, x425⟩ := h420
                            have k426 : w422[4]? = some (bA E (a 4) 260 tf) := keeps_at kq424 k364 (by first | decide | omega | (dsimp only; omega))
                            have kp427 := keeps_tr kp366 kq424 (fun q hq => by first | omega | (dsimp only at *; omega))
                            obtain ⟨hj428, hj429, hj430⟩ := x425
                            obtain ⟨v431, v432, v433, v434, v435, v436, n437, n438, bo439, bo440, k441⟩ := hj428
                            refine x_goto C (tgt := 40) dX12_readsCondition_218 (by decide) ?_
                            refine x_lv (lv1 := [(0, .ref (a 0))]) [0] rfl ?_
                            exact ih40 (py + 1) (cy + 1) (wt367 + 1) ny ((upd fs368 cy (nI (1048576 * 11 + 0)))) ((upd gy wt367 (nI (1048576 * 11 + cy)))) (((11, cy) :: We369)) w422 hW423 (by omega) ⟨v431, v432, v433, v434, v435, v436, n437, n438, ⟨by omega, by omega, by omega, by omega, by omega, by omega, by omega⟩, ⟨by omega, by omega⟩, k441⟩ k426 hj429 hj430 (wR_push (op := 11) (pay := cy) hc370 (by omega) (by omega)) (CI_jump hc374 (Or.inl rfl)) (cOps_cons (e := (11, cy)) ⟨by show 10 ≤ 11; omega, by show 11 ≤ 13; omega⟩ hc375) (bot_push hc376) (by rw [wgt_hd0 (e := (11, cy)) (by show ¬ ((2 ≤ 11 ∧ 11 ≤ 6) ∨ 11 = 10); omega)]; omega) (ag_upd (fun k hk => (hc378 k hk).trans (iv92_9 k hk)) (CI_le hc374)) kp427
                      · skip
                        refine x_aload_n C dX12_readsCondition_161 rfl 0 rfl rfl ?_
                        refine x_vi C (As := []) (rest := []) (m_here E l a cd hG kf jn js jq wl92 hWl92 tp py le cy wy sm lm ny ⟨v244, v245, v246, v247, v248, v249, n250, n251, ⟨by omega, by omega, by omega, by omega, by omega, by omega, by omega⟩, ⟨by omega, by omega⟩, k254⟩ tf iv92_1) mf_X12_here w_1317 0 k254 rfl rfl rfl (Nat.le_of_ble_eq_true rfl) ⟨(Nat.le_of_ble_eq_true rfl), (Nat.le_of_ble_eq_true rfl)⟩ ⟨(Nat.le_of_ble_eq_true rfl), (Nat.le_of_ble_eq_true rfl)⟩ dX12_readsCondition_162 rfl (fun r443 w444 h442 => ?_)
                        obtain ⟨hW445, x446⟩ := h442
                        refine x_ws hW445 ?_
                        refine x_bipush C (v := 124) dX12_readsCondition_165 (by decide) rfl ?_
                        refine x_icmp_eq C (tgt := 180) dX12_readsCondition_167 (by decide) rfl (fun c447 => ?_) (fun c447 => ?_)
                        · skip
                          have hp448 := hv_lt (x446.symm.trans c447) (by decide)
                          refine x_aload_n C dX12_readsCondition_180 rfl 0 rfl rfl ?_
                          refine x_aload_n C dX12_readsCondition_181 rfl 0 rfl rfl ?_
                          refine x_vi C (As := []) (rest := [.ref (a 0)]) (m_here E l a cd hG kf jn js jq wl92 hWl92 tp py le cy wy sm lm ny ⟨v244, v245, v246, v247, v248, v249, n250, n251, ⟨by omega, by omega, by omega, by omega, by omega, by omega, by omega⟩, ⟨by omega, by omega⟩, k254⟩ tf iv92_1) mf_X12_here w_1317 0 k254 rfl rfl rfl (Nat.le_of_ble_eq_true rfl) ⟨(Nat.le_of_ble_eq_true rfl), (Nat.le_of_ble_eq_true rfl)⟩ ⟨(Nat.le_of_ble_eq_true rfl), (Nat.le_of_ble_eq_true rfl)⟩ dX12_readsCondition_182 rfl (fun r450 w451 h449 => ?_)
                          obtain ⟨hW452, x453⟩ := h449
                          refine x_ws hW452 ?_
                          refine x_bipush C (v := 124) dX12_readsCondition_185 (by decide) rfl ?_
                          refine x_icmp_ne C (tgt := 194) dX12_readsCondition_187 (by decide) rfl (fun c454 => ?_) (fun c454 => ?_)
                          · skip
                            refine x_iconst C (v := 0) dX12_readsCondition_194 (by decide) rfl ?_
                            refine x_vv C (As := [.int 0]) (rest := []) (m_lands0 E l a cd hG kf jn js jq wl92 hWl92 tp py le cy wy sm lm ny ⟨v244, v245, v246, v247, v248, v249, n250, n251, ⟨by omega, by omega, by omega, by omega, by omega, by omega, by omega⟩, ⟨by omega, by omega⟩, k254⟩ fy iv92_2 gy iv92_3 Wy iv92_4 cm iv92_5 iv92_6 iv92_7 (by omega)) mf_X12_lands w_1383 0 k254 rfl rfl rfl (Nat.le_of_ble_eq_true rfl) ⟨(Nat.le_of_ble_eq_true rfl), (Nat.le_of_ble_eq_true rfl)⟩ ⟨(Nat.le_of_ble_eq_true rfl), (Nat.le_of_ble_eq_true rfl)⟩ dX12_readsCondition_195 rfl (fun w457 h455 => ?_)
                            obtain ⟨hW458, kq459, x460⟩ := h455
                            have k461 : w457[4]? = some (bA E (a 4) 260 tf) := keeps_at kq459 iv92_1 (by first | decide | omega | (dsimp only; omega))
                            have k462 : w457[6]? = some (iA E (a 6) 260 gy) := keeps_at kq459 iv92_3 (by first | decide | omega | (dsimp only; omega))
                            have kp463 := keeps_tr kq92 kq459 (fun q hq => by first | omega | (dsimp only at *; omega))
                            obtain ⟨wt464, fs465, We466, hc467, hc468, hc469, hc470, hc471, hc472, hc473, hc474, hc475⟩ := x460
                            obtain ⟨v476, v477, v478, v479, v480, v481, n482, n483, bo484, bo485, k486⟩ := hc469
                            refine x_aload_n C dX12_readsCondition_198 rfl 0 rfl rfl ?_
                            refine x_aload_n C dX12_readsCondition_199 rfl 0 rfl rfl ?_
                            refine x_vi C (As := []) (rest := [.ref (a 0)]) (m_here E l a cd hG kf jn js jq w457 hW458 tp py le cy wt464 sm lm ny ⟨v476, v477, v478, v479, v480, v481, n482, n483, ⟨by omega, by omega, by omega, by omega, by omega, by omega, by omega⟩, ⟨by omega, by omega⟩, k486⟩ tf k461) mf_X12_here w_1317 0 k486 rfl rfl rfl (Nat.le_of_ble_eq_true rfl) ⟨(Nat.le_of_ble_eq_true rfl), (Nat.le_of_ble_eq_true rfl)⟩ ⟨(Nat.le_of_ble_eq_true rfl), (Nat.le_of_ble_eq_true rfl)⟩ dX12_readsCondition_200 rfl (fun r488 w489 h487 => ?_)
                            obtain ⟨hW490, x491⟩ := h487
                            refine x_ws hW490 ?_
                            refine x_bipush C (v := 38) dX12_readsCondition_203 (by decide) rfl ?_
                            refine x_icmp_ne C (tgt := 213) dX12_readsCondition_205 (by decide) rfl (fun c492 => ?_) (fun c492 => ?_)
                            · skip
                              refine x_bipush C (v := 12) dX12_readsCondition_213 (by decide) rfl ?_
                              refine x_vv C (As := [.int 12]) (rest := []) (m_jumps12 E l a cd hG kf jn js jq w457 hW458 tp py le cy wt464 sm lm ny ⟨v476, v477, v478, v479, v480, v481, n482, n483, ⟨by omega, by omega, by omega, by omega, by omega, by omega, by omega⟩, ⟨by omega, by omega⟩, k486⟩ fs465 hc470 gy k462 (by omega) (by omega) (by omega)) mf_X12_jumps w_1387 0 k486 rfl rfl rfl (Nat.le_of_ble_eq_true rfl) ⟨(Nat.le_of_ble_eq_true rfl), (Nat.le_of_ble_eq_true rfl)⟩ ⟨(Nat.le_of_ble_eq_true rfl), (Nat.le_of_ble_eq_true rfl)⟩ dX12_readsCondition_215 rfl (fun w495 h493 => ?_)
                              obtain ⟨hW496, kq497, x498⟩ := h493
                              have k499 : w495[4]? = some (bA E (a 4) 260 tf) := keeps_at kq497 k461 (by first | decide | omega | (dsimp only; omega))
                              have kp500 := keeps_tr kp463 kq497 (fun q hq => by first | omega | (dsimp only at *; omega))
                              obtain ⟨hj501, hj502, hj503⟩ := x498
                              obtain ⟨v504, v505, v506, v507, v508, v509, n510, n511, bo512, bo513, k514⟩ := hj501
                              refine x_goto C (tgt := 40) dX12_readsCondition_218 (by decide) ?_
                              refine x_lv (lv1 := [(0, .ref (a 0))]) [0] rfl ?_
                              exact ih40 (py + 1) (cy + 1) (wt464 + 1) ny ((upd fs465 cy (nI (1048576 * 12 + 0)))) ((upd gy wt464 (nI (1048576 * 12 + cy)))) (((12, cy) :: We466)) w495 hW496 (by omega) ⟨v504, v505, v506, v507, v508, v509, n510, n511, ⟨by omega, by omega, by omega, by omega, by omega, by omega, by omega⟩, ⟨by omega, by omega⟩, k514⟩ k499 hj502 hj503 (wR_push (op := 12) (pay := cy) hc467 (by omega) (by omega)) (CI_jump hc471 (Or.inr rfl)) (cOps_cons (e := (12, cy)) ⟨by show 10 ≤ 12; omega, by show 12 ≤ 13; omega⟩ hc472) (bot_push hc473) (by rw [wgt_hd0 (e := (12, cy)) (by show ¬ ((2 ≤ 12 ∧ 12 ≤ 6) ∨ 12 = 10); omega)]; omega) (ag_upd (fun k hk => (hc475 k hk).trans (iv92_9 k hk)) (CI_le hc471)) kp500
                            · skip
                              have hp515 := hv_lt (x491.symm.trans c492) (by decide)
                              refine x_bipush C (v := 11) dX12_readsCondition_208 (by decide) rfl ?_
                              refine x_goto C (tgt := 215) dX12_readsCondition_210 (by decide) ?_
                              refine x_vv C (As := [.int 11]) (rest := []) (m_jumps11 E l a cd hG kf jn js jq w457 hW458 tp py le cy wt464 sm lm ny ⟨v476, v477, v478, v479, v480, v481, n482, n483, ⟨by omega, by omega, by omega, by omega, by omega, by omega, by omega⟩, ⟨by omega, by omega⟩, k486⟩ fs465 hc470 gy k462 (by omega) (by omega) (by omega)) mf_X12_jumps w_1387 0 k486 rfl rfl rfl (Nat.le_of_ble_eq_true rfl) ⟨(Nat.le_of_ble_eq_true rfl), (Nat.le_of_ble_eq_true rfl)⟩ ⟨(Nat.le_of_ble_eq_true rfl), (Nat.le_of_ble_eq_true rfl)⟩ dX12_readsCondition_215 rfl (fun w518 h516 => ?_)
                              obtain ⟨hW519, kq520, x521⟩ := h516
                              have k522 : w518[4]? = some (bA E (a 4) 260 tf) := keeps_at kq520 k461 (by first | decide | omega | (dsimp only; omega))
                              have kp523 := keeps_tr kp463 kq520 (fun q hq => by first | omega | (dsimp only at *; omega))
                              obtain ⟨hj524, hj525, hj526⟩ := x521
                              obtain ⟨v527, v528, v529, v530, v531, v532, n533, n534, bo535, bo536, k537⟩ := hj524
                              refine x_goto C (tgt := 40) dX12_readsCondition_218 (by decide) ?_
                              refine x_lv (lv1 := [(0, .ref (a 0))]) [0] rfl ?_
                              exact ih40 (py + 1) (cy + 1) (wt464 + 1) ny ((upd fs465 cy (nI (1048576 * 11 + 0)))) ((upd gy wt464 (nI (1048576 * 11 + cy)))) (((11, cy) :: We466)) w518 hW519 (by omega) ⟨v527, v528, v529, v530, v531, v532, n533, n534, ⟨by omega, by omega, by omega, by omega, by omega, by omega, by omega⟩, ⟨by omega, by omega⟩, k537⟩ k522 hj525 hj526 (wR_push (op := 11) (pay := cy) hc467 (by omega) (by omega)) (CI_jump hc471 (Or.inl rfl)) (cOps_cons (e := (11, cy)) ⟨by show 10 ≤ 11; omega, by show 11 ≤ 13; omega⟩ hc472) (bot_push hc473) (by rw [wgt_hd0 (e := (11, cy)) (by show ¬ ((2 ≤ 11 ∧ 11 ≤ 6) ∨ 11 = 10); omega)]; omega) (ag_upd (fun k hk => (hc475 k hk).trans (iv92_9 k hk)) (CI_le hc471)) kp523
                          · skip
                            have hp538 := hv_lt (x453.symm.trans c454) (by decide)
                            refine x_iconst C (v := 1) dX12_readsCondition_190 (by decide) rfl ?_
                            refine x_goto C (tgt := 195) dX12_readsCondition_191 (by decide) ?_
                            refine x_vv C (As := [.int 1]) (rest := []) (m_lands1 E l a cd hG kf jn js jq wl92 hWl92 tp py le cy wy sm lm ny ⟨v244, v245, v246, v247, v248, v249, n250, n251, ⟨by omega, by omega, by omega, by omega, by omega, by omega, by omega⟩, ⟨by omega, by omega⟩, k254⟩ fy iv92_2 gy iv92_3 Wy iv92_4 cm iv92_5 iv92_6 iv92_7 (by omega)) mf_X12_lands w_1383 0 k254 rfl rfl rfl (Nat.le_of_ble_eq_true rfl) ⟨(Nat.le_of_ble_eq_true rfl), (Nat.le_of_ble_eq_true rfl)⟩ ⟨(Nat.le_of_ble_eq_true rfl), (Nat.le_of_ble_eq_true rfl)⟩ dX12_readsCondition_195 rfl (fun w541 h539 => ?_)
                            obtain ⟨hW542, kq543, x544⟩ := h539
                            have k545 : w541[4]? = some (bA E (a 4) 260 tf) := keeps_at kq543 iv92_1 (by first | decide | omega | (dsimp only; omega))
                            have k546 : w541[6]? = some (iA E (a 6) 260 gy) := keeps_at kq543 iv92_3 (by first | decide | omega | (dsimp only; omega))
                            have kp547 := keeps_tr kq92 kq543 (fun q hq => by first | omega | (dsimp only at *; omega))
                            obtain ⟨wt548, fs549, We550, hc551, hc552, hc553, hc554, hc555, hc556, hc557, hc558, hc559, hc560⟩ := x544
                            obtain ⟨v561, v562, v563, v564, v565, v566, n567, n568, bo569, bo570, k571⟩ := hc553
                            refine x_aload_n C dX12_readsCondition_198 rfl 0 rfl rfl ?_
                            refine x_aload_n C dX12_readsCondition_199 rfl 0 rfl rfl ?_
                            refine x_vi C (As := []) (rest := [.ref (a 0)]) (m_here E l a cd hG kf jn js jq w541 hW542 tp py le cy wt548 sm lm ny ⟨v561, v562, v563, v564, v565, v566, n567, n568, ⟨by omega, by omega, by omega, by omega, by omega, by omega, by omega⟩, ⟨by omega, by omega⟩, k571⟩ tf k545) mf_X12_here w_1317 0 k571 rfl rfl rfl (Nat.le_of_ble_eq_true rfl) ⟨(Nat.le_of_ble_eq_true rfl), (Nat.le_of_ble_eq_true rfl)⟩ ⟨(Nat.le_of_ble_eq_true rfl), (Nat.le_of_ble_eq_true rfl)⟩ dX12_readsCondition_200 rfl (fun r573 w574 h572 => ?_)
                            obtain ⟨hW575, x576⟩ := h572
                            refine x_ws hW575 ?_
                            refine x_bipush C (v := 38) dX12_readsCondition_203 (by decide) rfl ?_
                            refine x_icmp_ne C (tgt := 213) dX12_readsCondition_205 (by decide) rfl (fun c577 => ?_) (fun c577 => ?_)
                            · skip
                              refine x_bipush C (v := 12) dX12_readsCondition_213 (by decide) rfl ?_
                              refine x_vv C (As := [.int 12]) (rest := []) (m_jumps12 E l a cd hG kf jn js jq w541 hW542 tp py le cy wt548 sm lm ny ⟨v561, v562, v563, v564, v565, v566, n567, n568, ⟨by omega, by omega, by omega, by omega, by omega, by omega, by omega⟩, ⟨by omega, by omega⟩, k571⟩ fs549 hc554 gy k546 (by omega) (by omega) (by omega)) mf_X12_jumps w_1387 0 k571 rfl rfl rfl (Nat.le_of_ble_eq_true rfl) ⟨(Nat.le_of_ble_eq_true rfl), (Nat.le_of_ble_eq_true rfl)⟩ ⟨(Nat.le_of_ble_eq_true rfl), (Nat.le_of_ble_eq_true rfl)⟩ dX12_readsCondition_215 rfl (fun w580 h578 => ?_)
                              obtain ⟨hW581, kq582, x583⟩ := h578
                              have k584 : w580[4]? = some (bA E (a 4) 260 tf) := keeps_at kq582 k545 (by first | decide | omega | (dsimp only; omega))
                              have kp585 := keeps_tr kp547 kq582 (fun q hq => by first | omega | (dsimp only at *; omega))
                              obtain ⟨hj586, hj587, hj588⟩ := x583
                              obtain ⟨v589, v590, v591, v592, v593, v594, n595, n596, bo597, bo598, k599⟩ := hj586
                              refine x_goto C (tgt := 40) dX12_readsCondition_218 (by decide) ?_
                              refine x_lv (lv1 := [(0, .ref (a 0))]) [0] rfl ?_
                              exact ih40 (py + 1) (cy + 1) (wt548 + 1) ny ((upd fs549 cy (nI (1048576 * 12 + 0)))) ((upd gy wt548 (nI (1048576 * 12 + cy)))) (((12, cy) :: We550)) w580 hW581 (by omega) ⟨v589, v590, v591, v592, v593, v594, n595, n596, ⟨by omega, by omega, by omega, by omega, by omega, by omega, by omega⟩, ⟨by omega, by omega⟩, k599⟩ k584 hj587 hj588 (wR_push (op := 12) (pay := cy) hc551 (by omega) (by omega)) (CI_jump hc555 (Or.inr rfl)) (cOps_cons (e := (12, cy)) ⟨by show 10 ≤ 12; omega, by show 12 ≤ 13; omega⟩ hc556) (bot_push hc557) (by rw [wgt_hd0 (e := (12, cy)) (by show ¬ ((2 ≤ 12 ∧ 12 ≤ 6) ∨ 12 = 10); omega)]; omega) (ag_upd (fun k hk => (hc559 k hk).trans (iv92_9 k hk)) (CI_le hc555)) kp585
                            · skip
                              have hp600 := hv_lt (x576.symm.trans c577) (by decide)
                              refine x_bipush C (v := 11) dX12_readsCondition_208 (by decide) rfl ?_
                              refine x_goto C (tgt := 215) dX12_readsCondition_210 (by decide) ?_
                              refine x_vv C (As := [.int 11]) (rest := []) (m_jumps11 E l a cd hG kf jn js jq w541 hW542 tp py le cy wt548 sm lm ny ⟨v561, v562, v563, v564, v565, v566, n567, n568, ⟨by omega, by omega, by omega, by omega, by omega, by omega, by omega⟩, ⟨by omega, by omega⟩, k571⟩ fs549 hc554 gy k546 (by omega) (by omega) (by omega)) mf_X12_jumps w_1387 0 k571 rfl rfl rfl (Nat.le_of_ble_eq_true rfl) ⟨(Nat.le_of_ble_eq_true rfl), (Nat.le_of_ble_eq_true rfl)⟩ ⟨(Nat.le_of_ble_eq_true rfl), (Nat.le_of_ble_eq_true rfl)⟩ dX12_readsCondition_215 rfl (fun w603 h601 => ?_)
                              obtain ⟨hW604, kq605, x606⟩ := h601
                              have k607 : w603[4]? = some (bA E (a 4) 260 tf) := keeps_at kq605 k545 (by first | decide | omega | (dsimp only; omega))
                              have kp608 := keeps_tr kp547 kq605 (fun q hq => by first | omega | (dsimp only at *; omega))
                              obtain ⟨hj609, hj610, hj611⟩ := x606
                              obtain ⟨v612, v613, v614, v615, v616, v617, n618, n619, bo620, bo621, k622⟩ := hj609
                              refine x_goto C (tgt := 40) dX12_readsCondition_218 (by decide) ?_
                              refine x_lv (lv1 := [(0, .ref (a 0))]) [0] rfl ?_
                              exact ih40 (py + 1) (cy + 1) (wt548 + 1) ny ((upd fs549 cy (nI (1048576 * 11 + 0)))) ((upd gy wt548 (nI (1048576 * 11 + cy)))) (((11, cy) :: We550)) w603 hW604 (by omega) ⟨v612, v613, v614, v615, v616, v617, n618, n619, ⟨by omega, by omega, by omega, by omega, by omega, by omega, by omega⟩, ⟨by omega, by omega⟩, k622⟩ k607 hj610 hj611 (wR_push (op := 11) (pay := cy) hc551 (by omega) (by omega)) (CI_jump hc555 (Or.inl rfl)) (cOps_cons (e := (11, cy)) ⟨by show 10 ≤ 11; omega, by show 11 ≤ 13; omega⟩ hc556) (bot_push hc557) (by rw [wgt_hd0 (e := (11, cy)) (by show ¬ ((2 ≤ 11 ∧ 11 ≤ 6) ∨ 11 = 10); omega)]; omega) (ag_upd (fun k hk => (hc559 k hk).trans (iv92_9 k hk)) (CI_le hc555)) kp608
                        · skip
                          refine x_aload_n C dX12_readsCondition_170 rfl 0 rfl rfl ?_
                          refine x_iconst C (v := 1) dX12_readsCondition_171 (by decide) rfl ?_
                          refine x_aload_n C dX12_readsCondition_172 rfl 0 rfl rfl ?_
                          refine x_get C (ci := 11) (k := 5) 0 k254 rfl in_X12 (by decide) w_1123 rfl dX12_readsCondition_173 rfl ?_
                          refine x_vi C (As := [.int 1, .int (nI py)]) (rest := []) (m_wrongAt E l a cd hG kf jn js jq wl92 hWl92 (1 : Int32) ((nI py)) tp py le cy wy sm lm ny ⟨v244, v245, v246, v247, v248, v249, n250, n251, ⟨by omega, by omega, by omega, by omega, by omega, by omega, by omega⟩, ⟨by omega, by omega⟩, k254⟩) mf_X12_wrongAt w_1324 0 k254 rfl rfl rfl (Nat.le_of_ble_eq_true rfl) ⟨(Nat.le_of_ble_eq_true rfl), (Nat.le_of_ble_eq_true rfl)⟩ ⟨(Nat.le_of_ble_eq_true rfl), (Nat.le_of_ble_eq_true rfl)⟩ dX12_readsCondition_176 rfl (fun r624 w625 h623 => ?_)
                          obtain ⟨hW626, kq627, e628, x629⟩ := h623
                          refine x_top e628 ?_
                          have k630 : w625[4]? = some (bA E (a 4) 260 tf) := keeps_at kq627 iv92_1 (by first | decide | omega | (dsimp only; omega))
                          have k631 : w625[5]? = some (iA E (a 5) 260 fy) := keeps_at kq627 iv92_2 (by first | decide | omega | (dsimp only; omega))
                          have k632 : w625[6]? = some (iA E (a 6) 260 gy) := keeps_at kq627 iv92_3 (by first | decide | omega | (dsimp only; omega))
                          have kp633 := keeps_tr kq92 kq627 (fun q hq => by first | omega | (dsimp only at *; omega))
                          obtain ⟨v634, v635, v636, v637, v638, v639, n640, n641, bo642, bo643, k644⟩ := x629
                          exact x_zret C hr hlk rfl dX12_readsCondition_179 ⟨hW626, kp633, (Or.inl rfl), (Or.inl ⟨rfl, ⟨py, cy, wy, _, _, ⟨⟨_, ⟨v634, v635, v636, v637, v638, v639, n640, n641, ⟨by omega, by omega, by omega, by omega, by omega, by omega, by omega⟩, ⟨by omega, by omega⟩, k644⟩⟩, k631, k632⟩⟩⟩)⟩
                    · skip
                      have hp645 := hv_lt (x259.symm.trans c260) (by decide)
                      refine x_aload_n C dX12_readsCondition_101 rfl 0 rfl rfl ?_
                      refine x_iconst C (v := 1) dX12_readsCondition_102 (by decide) rfl ?_
                      refine x_vv C (As := [.int 1]) (rest := []) (m_lands1 E l a cd hG kf jn js jq wl92 hWl92 tp py le cy wy sm lm ny ⟨v244, v245, v246, v247, v248, v249, n250, n251, ⟨by omega, by omega, by omega, by omega, by omega, by omega, by omega⟩, ⟨by omega, by omega⟩, k254⟩ fy iv92_2 gy iv92_3 Wy iv92_4 cm iv92_5 iv92_6 iv92_7 (by omega)) mf_X12_lands w_1383 0 k254 rfl rfl rfl (Nat.le_of_ble_eq_true rfl) ⟨(Nat.le_of_ble_eq_true rfl), (Nat.le_of_ble_eq_true rfl)⟩ ⟨(Nat.le_of_ble_eq_true rfl), (Nat.le_of_ble_eq_true rfl)⟩ dX12_readsCondition_103 rfl (fun w648 h646 => ?_)
                      obtain ⟨hW649, kq650, x651⟩ := h646
                      have k652 : w648[4]? = some (bA E (a 4) 260 tf) := keeps_at kq650 iv92_1 (by first | decide | omega | (dsimp only; omega))
                      have k653 : w648[6]? = some (iA E (a 6) 260 gy) := keeps_at kq650 iv92_3 (by first | decide | omega | (dsimp only; omega))
                      have kp654 := keeps_tr kq92 kq650 (fun q hq => by first | omega | (dsimp only at *; omega))
                      obtain ⟨wt655, fs656, We657, hc658, hc659, hc660, hc661, hc662, hc663, hc664, hc665, hc666, hc667⟩ := x651
                      obtain ⟨v668, v669, v670, v671, v672, v673, n674, n675, bo676, bo677, k678⟩ := hc660
                      rcases We657 with _ | ⟨e, W1⟩
                      · exact (bot_nil hc664).elim
                      have hw1 := hc658.1
                      have hnj := hc667 e W1 rfl
                      have hwl := wR_len hc658.2.2.2.2
                      have hwe : wgt W1 ≤ wgt (e :: W1) := Nat.le_add_left _ _
                      refine x_aload_n C dX12_readsCondition_106 rfl 0 rfl rfl ?_
                      refine x_aload_n C dX12_readsCondition_107 rfl 0 rfl rfl ?_
                      refine x_get C (ci := 11) (k := 11) 0 k678 rfl in_X12 (by decide) w_1129 rfl dX12_readsCondition_108 rfl ?_
                      refine x_iconst C (v := 1) dX12_readsCondition_111 (by decide) rfl ?_
                      refine x_isub C (v := (nI (wt655 - 1))) dX12_readsCondition_112 (pk_sub (a := wt655) (b := 1) (by omega)) rfl ?_
                      obtain ⟨w679, hw680⟩ : ∃ w : va_W, w = List.set w648 0 (ob (a 0) 11 [.ref (a 1), .ref (a 2), .ref (a 3), .ref (a 4), .int (nI tp), .int (nI py), .int (nI le), .int v668, .int ny, .int v669, .int (nI cy), .int (nI (wt655 - 1)), .int (nI sm), .int (nI (cd.2.2.2.2.2)), .ref (a 5), .ref (a 6), .ref (a 7), .ref (a 8), .ref (a 9), .ref (a 10), .ref (a 11), .ref (a 12), .ref (a 13), .ref (a 14), .ref (a 15), .ref (a 16), .ref (a 17), .int (nI lm), .ref (a 18), .ref (a 19), .ref (a 20), .ref (a 21), .int v670, .int v671, .int v672, .int v673, .int (nI n674), .int (nI n675), .ref (a 22), .ref (a 23), .ref (a 24), .ref (a 25), .ref (a 26), .ref (a 27), .ref (a 28), .ref (a 29), .ref (a 30), .int kf]) := ⟨_, rfl⟩
                      refine x_put C (ci := 11) (k := 11) (ty := .int) 0 k678 rfl in_X12 tyX12 tyX12_ok nmX12 (by decide) w_1129 rfl rfl rfl rfl (Nat.le_of_ble_eq_true rfl) hw680.symm dX12_readsCondition_113 rfl ?_
                      have hW681 : WX (okM E a cd kf jn js jq) w679 := by rw [hw680]; exact hW649.set (k := 0) rfl ⟨tp, py, le, v668, ny, v669, cy, (wt655 - 1), sm, lm, v670, v671, v672, v673, n674, n675, by omega, by omega, by omega, by omega, by omega, by omega, by omega, by omega, by omega, rfl⟩
                      have k682 : w679[4]? = some (bA E (a 4) 260 tf) := by rw [hw680]; exact set_ne k652 (by decide)
                      have k683 : w679[6]? = some (iA E (a 6) 260 gy) := by rw [hw680]; exact set_ne k653 (by decide)
                      have k684 : w679[0]? = some (ob (a 0) 11 [.ref (a 1), .ref (a 2), .ref (a 3), .ref (a 4), .int (nI tp), .int (nI py), .int (nI le), .int v668, .int ny, .int v669, .int (nI cy), .int (nI (wt655 - 1)), .int (nI sm), .int (nI (cd.2.2.2.2.2)), .ref (a 5), .ref (a 6), .ref (a 7), .ref (a 8), .ref (a 9), .ref (a 10), .ref (a 11), .ref (a 12), .ref (a 13), .ref (a 14), .ref (a 15), .ref (a 16), .ref (a 17), .int (nI lm), .ref (a 18), .ref (a 19), .ref (a 20), .ref (a 21), .int v670, .int v671, .int v672, .int v673, .int (nI n674), .int (nI n675), .ref (a 22), .ref (a 23), .ref (a 24), .ref (a 25), .ref (a 26), .ref (a 27), .ref (a 28), .ref (a 29), .ref (a 30), .int kf]) := by rw [hw680]; exact set_eq k678
                      have k685 : w679[5]? = some (iA E (a 5) 260 fs656) := by rw [hw680]; exact set_ne hc661 (by decide)
                      have kp686 := keeps_set kp654 hw680 (by first | exact rfl | decide | omega | (dsimp only; omega))
                      refine x_aload_n C dX12_readsCondition_116 rfl 0 rfl rfl ?_
                      refine x_aload_n C dX12_readsCondition_117 rfl 0 rfl rfl ?_
                      refine x_get C (ci := 11) (k := 9) 0 k684 rfl in_X12 (by decide) w_1127 rfl dX12_readsCondition_118 rfl ?_
                      refine x_iconst C (v := 1) dX12_readsCondition_121 (by decide) rfl ?_
                      refine x_isub C (v := (v669 - (1 : Int32))) dX12_readsCondition_122 rfl rfl ?_
                      refine x_any (fun v687 => ?_)
                      obtain ⟨w688, hw689⟩ : ∃ w : va_W, w = List.set w679 0 (ob (a 0) 11 [.ref (a 1), .ref (a 2), .ref (a 3), .ref (a 4), .int (nI tp), .int (nI py), .int (nI le), .int v668, .int ny, .int v687, .int (nI cy), .int (nI (wt655 - 1)), .int (nI sm), .int (nI (cd.2.2.2.2.2)), .ref (a 5), .ref (a 6), .ref (a 7), .ref (a 8), .ref (a 9), .ref (a 10), .ref (a 11), .ref (a 12), .ref (a 13), .ref (a 14), .ref (a 15), .ref (a 16), .ref (a 17), .int (nI lm), .ref (a 18), .ref (a 19), .ref (a 20), .ref (a 21), .int v670, .int v671, .int v672, .int v673, .int (nI n674), .int (nI n675), .ref (a 22), .ref (a 23), .ref (a 24), .ref (a 25), .ref (a 26), .ref (a 27), .ref (a 28), .ref (a 29), .ref (a 30), .int kf]) := ⟨_, rfl⟩
                      refine x_put C (ci := 11) (k := 9) (ty := .int) 0 k684 rfl in_X12 tyX12 tyX12_ok nmX12 (by decide) w_1127 rfl rfl rfl rfl (Nat.le_of_ble_eq_true rfl) hw689.symm dX12_readsCondition_123 rfl ?_
                      have hW690 : WX (okM E a cd kf jn js jq) w688 := by rw [hw689]; exact hW681.set (k := 0) rfl ⟨tp, py, le, v668, ny, v687, cy, (wt655 - 1), sm, lm, v670, v671, v672, v673, n674, n675, by omega, by omega, by omega, by omega, by omega, by omega, by omega, by omega, by omega, rfl⟩
                      have k691 : w688[4]? = some (bA E (a 4) 260 tf) := by rw [hw689]; exact set_ne k682 (by decide)
                      have k692 : w688[6]? = some (iA E (a 6) 260 gy) := by rw [hw689]; exact set_ne k683 (by decide)
                      have k693 : w688[0]? = some (ob (a 0) 11 [.ref (a 1), .ref (a 2), .ref (a 3), .ref (a 4), .int (nI tp), .int (nI py), .int (nI le), .int v668, .int ny, .int v687, .int (nI cy), .int (nI (wt655 - 1)), .int (nI sm), .int (nI (cd.2.2.2.2.2)), .ref (a 5), .ref (a 6), .ref (a 7), .ref (a 8), .ref (a 9), .ref (a 10), .ref (a 11), .ref (a 12), .ref (a 13), .ref (a 14), .ref (a 15), .ref (a 16), .ref (a 17), .int (nI lm), .ref (a 18), .ref (a 19), .ref (a 20), .ref (a 21), .int v670, .int v671, .int v672, .int v673, .int (nI n674), .int (nI n675), .ref (a 22), .ref (a 23), .ref (a 24), .ref (a 25), .ref (a 26), .ref (a 27), .ref (a 28), .ref (a 29), .ref (a 30), .int kf]) := by rw [hw689]; exact set_eq k684
                      have k694 : w688[5]? = some (iA E (a 5) 260 fs656) := by rw [hw689]; exact set_ne k685 (by decide)
                      have kp695 := keeps_set kp686 hw689 (by first | exact rfl | decide | omega | (dsimp only; omega))
                      refine x_aload_n C dX12_readsCondition_126 rfl 0 rfl rfl ?_
                      refine x_aload_n C dX12_readsCondition_127 rfl 0 rfl rfl ?_
                      refine x_get C (ci := 11) (k := 5) 0 k693 rfl in_X12 (by decide) w_1123 rfl dX12_readsCondition_128 rfl ?_
                      refine x_iconst C (v := 1) dX12_readsCondition_131 (by decide) rfl ?_
                      refine x_iadd C (v := (nI (py + 1))) dX12_readsCondition_132 (nI_add py 1) rfl ?_
                      obtain ⟨w696, hw697⟩ : ∃ w : va_W, w = List.set w688 0 (ob (a 0) 11 [.ref (a 1), .ref (a 2), .ref (a 3), .ref (a 4), .int (nI tp), .int (nI (py + 1)), .int (nI le), .int v668, .int ny, .int v687, .int (nI cy), .int (nI (wt655 - 1)), .int (nI sm), .int (nI (cd.2.2.2.2.2)), .ref (a 5), .ref (a 6), .ref (a 7), .ref (a 8), .ref (a 9), .ref (a 10), .ref (a 11), .ref (a 12), .ref (a 13), .ref (a 14), .ref (a 15), .ref (a 16), .ref (a 17), .int (nI lm), .ref (a 18), .ref (a 19), .ref (a 20), .ref (a 21), .int v670, .int v671, .int v672, .int v673, .int (nI n674), .int (nI n675), .ref (a 22), .ref (a 23), .ref (a 24), .ref (a 25), .ref (a 26), .ref (a 27), .ref (a 28), .ref (a 29), .ref (a 30), .int kf]) := ⟨_, rfl⟩
                      refine x_put C (ci := 11) (k := 5) (ty := .int) 0 k693 rfl in_X12 tyX12 tyX12_ok nmX12 (by decide) w_1123 rfl rfl rfl rfl (Nat.le_of_ble_eq_true rfl) hw697.symm dX12_readsCondition_133 rfl ?_
                      have hW698 : WX (okM E a cd kf jn js jq) w696 := by rw [hw697]; exact hW690.set (k := 0) rfl ⟨tp, (py + 1), le, v668, ny, v687, cy, (wt655 - 1), sm, lm, v670, v671, v672, v673, n674, n675, by omega, by omega, by omega, by omega, by omega, by omega, by omega, by omega, by omega, rfl⟩
                      have k699 : w696[4]? = some (bA E (a 4) 260 tf) := by rw [hw697]; exact set_ne k691 (by decide)
                      have k700 : w696[6]? = some (iA E (a 6) 260 gy) := by rw [hw697]; exact set_ne k692 (by decide)
                      have k701 : w696[0]? = some (ob (a 0) 11 [.ref (a 1), .ref (a 2), .ref (a 3), .ref (a 4), .int (nI tp), .int (nI (py + 1)), .int (nI le), .int v668, .int ny, .int v687, .int (nI cy), .int (nI (wt655 - 1)), .int (nI sm), .int (nI (cd.2.2.2.2.2)), .ref (a 5), .ref (a 6), .ref (a 7), .ref (a 8), .ref (a 9), .ref (a 10), .ref (a 11), .ref (a 12), .ref (a 13), .ref (a 14), .ref (a 15), .ref (a 16), .ref (a 17), .int (nI lm), .ref (a 18), .ref (a 19), .ref (a 20), .ref (a 21), .int v670, .int v671, .int v672, .int v673, .int (nI n674), .int (nI n675), .ref (a 22), .ref (a 23), .ref (a 24), .ref (a 25), .ref (a 26), .ref (a 27), .ref (a 28), .ref (a 29), .ref (a 30), .int kf]) := by rw [hw697]; exact set_eq k693
                      have k702 : w696[5]? = some (iA E (a 5) 260 fs656) := by rw [hw697]; exact set_ne k694 (by decide)
                      have kp703 := keeps_set kp695 hw697 (by first | exact rfl | decide | omega | (dsimp only; omega))
                      refine x_aload_n C dX12_readsCondition_136 rfl 0 rfl rfl ?_
                      refine x_get C (ci := 11) (k := 11) 0 k701 rfl in_X12 (by decide) w_1129 rfl dX12_readsCondition_137 rfl ?_
                      refine x_if_ne C (tgt := 145) dX12_readsCondition_140 (by decide) rfl (fun c704 => ?_) (fun c704 => ?_)
                      · skip
                        have nf705 : ¬ wt655 - 1 = 0 := fun q => c704 (congrArg nI q)
                        refine x_aload_n C dX12_readsCondition_145 rfl 0 rfl rfl ?_
                        refine x_vv C (As := []) (rest := []) (m_endsPiece E l a cd hG kf jn js jq w696 hW698 tp (py + 1) le cy (wt655 - 1) sm lm ny ⟨v668, v687, v670, v671, v672, v673, n674, n675, ⟨by omega, by omega, by omega, by omega, by omega, by omega, by omega⟩, ⟨by omega, by omega⟩, k701⟩ fs656 k702 gy k700 W1 hc658.2.2.2.2 cm (CI_pop hc662 hnj) (cOps_hd hc663).2 (bot_pop hc664 (by omega)) (by omega)) mf_X12_endsPiece w_1379 0 k701 rfl rfl rfl (Nat.le_of_ble_eq_true rfl) ⟨(Nat.le_of_ble_eq_true rfl), (Nat.le_of_ble_eq_true rfl)⟩ ⟨(Nat.le_of_ble_eq_true rfl), (Nat.le_of_ble_eq_true rfl)⟩ dX12_readsCondition_146 rfl (fun w708 h706 => ?_)
                        obtain ⟨hW709, kq710, x711⟩ := h706
                        have k712 : w708[4]? = some (bA E (a 4) 260 tf) := keeps_at kq710 k699 (by first | decide | omega | (dsimp only; omega))
                        have k713 : w708[6]? = some (iA E (a 6) 260 gy) := keeps_at kq710 k700 (by first | decide | omega | (dsimp only; omega))
                        have kp714 := keeps_tr kp703 kq710 (fun q hq => by first | omega | (dsimp only at *; omega))
                        obtain ⟨cm715, wt716, fs717, We718, hc719, hc720, hc721, hc722, hc723, hc724, hc725, hc726, hc727⟩ := x711
                        obtain ⟨v728, v729, v730, v731, v732, v733, n734, n735, bo736, bo737, k738⟩ := hc721
                        refine x_goto C (tgt := 92) dX12_readsCondition_149 (by decide) ?_
                        refine x_lv (lv1 := [(0, .ref (a 0))]) [0] rfl ?_
                        exact ih92 ((py + 1)) cm715 wt716 ny fs717 gy We718 w708 hW709 (by omega) ⟨v728, v729, v730, v731, v732, v733, n734, n735, ⟨by omega, by omega, by omega, by omega, by omega, by omega, by omega⟩, ⟨by omega, by omega⟩, k738⟩ k712 hc722 k713 hc719 hc723 hc724 hc725 (by omega) (fun k hk => (hc727 k hk).trans ((hc666 k hk).trans (iv92_9 k hk))) kp714
                      · skip
                        have nf739 : wt655 - 1 = 0 := (nI_eq (by omega) (by omega)).mp c704
                        have hw0 : (wt655 - 1) = 0 := by omega
                        have hn0 : W1 = [] := List.eq_nil_of_length_eq_zero (by omega)
                        refine x_iconst C (v := 1) dX12_readsCondition_143 (by decide) rfl ?_
                        exact x_zret C hr hlk rfl dX12_readsCondition_144 ⟨hW698, kp703, (Or.inr rfl), (Or.inr ⟨rfl, (py + 1), cy, _, _, by omega, by omega, ⟨⟨_, hw0 ▸ (show MO a cd kf w696 tp (py + 1) le cy (wt655 - 1) sm lm ny from ⟨v668, v687, v670, v671, v672, v673, n674, n675, ⟨by omega, by omega, by omega, by omega, by omega, by omega, by omega⟩, ⟨by omega, by omega⟩, k701⟩)⟩, k702, k700⟩, CI_seg (show CI _ cm cy 1 [] from hn0 ▸ CI_pop hc662 hnj) (by omega), by omega, fun k hk => (hc666 k hk).trans (iv92_9 k hk)⟩)⟩
                refine x_lv (lv1 := [(0, .ref (a 0))]) [0] rfl ?_
                exact loop92 _ pl192 cm193 wt194 nu229 fs195 fw196 We197 w182 hW183 (Nat.lt_succ_self _) ⟨v233, v234, v235, v236, v237, v238, n239, n240, ⟨by omega, by omega, by omega, by omega, by omega, by omega, by omega⟩, ⟨by omega, by omega⟩, k243⟩ k187 k231 k232 hs200 hs203 hs204 hs205 (by omega) (fun k hk => (hs207 k hk).trans (iv40_9 k hk)) kp188
            · skip
              have hp740 := hv_lt (x178.symm.trans c179) (by decide)
              refine x_aload_n C dX12_readsCondition_58 rfl 0 rfl rfl ?_
              refine x_aload_n C dX12_readsCondition_59 rfl 0 rfl rfl ?_
              refine x_vi C (As := []) (rest := [.ref (a 0)]) (m_here E l a cd hG kf jn js jq wl40 hWl40 tp px le cx wx sm lm nz ⟨v73, v74, v75, v76, v77, v78, n79, n80, ⟨by omega, by omega, by omega, by omega, by omega, by omega, by omega⟩, ⟨by omega, by omega⟩, k83⟩ tf iv40_1) mf_X12_here w_1317 0 k83 rfl rfl rfl (Nat.le_of_ble_eq_true rfl) ⟨(Nat.le_of_ble_eq_true rfl), (Nat.le_of_ble_eq_true rfl)⟩ ⟨(Nat.le_of_ble_eq_true rfl), (Nat.le_of_ble_eq_true rfl)⟩ dX12_readsCondition_60 rfl (fun r742 w743 h741 => ?_)
              obtain ⟨hW744, x745⟩ := h741
              refine x_ws hW744 ?_
              refine x_bipush C (v := 33) dX12_readsCondition_63 (by decide) rfl ?_
              refine x_icmp_ne C (tgt := 73) dX12_readsCondition_65 (by decide) rfl (fun c746 => ?_) (fun c746 => ?_)
              · skip
                refine x_bipush C (v := 13) dX12_readsCondition_73 (by decide) rfl ?_
                refine x_vi C (As := [.int 13]) (rest := []) (m_opens13 E l a cd hG kf jn js jq wl40 hWl40 tp px le cx wx sm lm nz ⟨v73, v74, v75, v76, v77, v78, n79, n80, ⟨by omega, by omega, by omega, by omega, by omega, by omega, by omega⟩, ⟨by omega, by omega⟩, k83⟩ gx iv40_3 (by omega) (by omega)) mf_X12_opens w_1336 0 k83 rfl rfl rfl (Nat.le_of_ble_eq_true rfl) ⟨(Nat.le_of_ble_eq_true rfl), (Nat.le_of_ble_eq_true rfl)⟩ ⟨(Nat.le_of_ble_eq_true rfl), (Nat.le_of_ble_eq_true rfl)⟩ dX12_readsCondition_75 rfl (fun r748 w749 h747 => ?_)
                obtain ⟨hW750, kq751, zb752, x753⟩ := h747
                have k754 : w749[4]? = some (bA E (a 4) 260 tf) := keeps_at kq751 iv40_1 (by first | decide | omega | (dsimp only; omega))
                have k755 : w749[5]? = some (iA E (a 5) 260 fx) := keeps_at kq751 iv40_2 (by first | decide | omega | (dsimp only; omega))
                have kp756 := keeps_tr kq40 kq751 (fun q hq => by first | omega | (dsimp only at *; omega))
                rcases x753 with ⟨e757, mo758, k759⟩ | ⟨e760, mo761, k762⟩
                · refine x_top e757 ?_
                  obtain ⟨v763, v764, v765, v766, v767, v768, n769, n770, bo771, bo772, k773⟩ := mo758
                  refine x_if_ne C (tgt := 40) dX12_readsCondition_78 (by decide) rfl (fun h => absurd h (by decide)) (fun _ => ?_)
                  refine x_iconst C (v := 0) dX12_readsCondition_81 (by decide) rfl ?_
                  exact x_zret C hr hlk rfl dX12_readsCondition_82 ⟨hW750, kp756, (Or.inl rfl), (Or.inl ⟨rfl, ⟨px, cx, wx, _, _, ⟨⟨_, ⟨v763, v764, v765, v766, v767, v768, n769, n770, ⟨by omega, by omega, by omega, by omega, by omega, by omega, by omega⟩, ⟨by omega, by omega⟩, k773⟩⟩, k755, k759⟩⟩⟩)⟩
                · refine x_top e760 ?_
                  obtain ⟨v774, v775, v776, v777, v778, v779, n780, n781, bo782, bo783, k784⟩ := mo761
                  refine x_if_ne C (tgt := 40) dX12_readsCondition_78 (by decide) rfl (fun _ => ?_) (fun h => absurd h (by decide))
                  refine x_lv (lv1 := [(0, .ref (a 0))]) [0] rfl ?_
                  exact ih40 (px + 1) cx (wx + 1) nz fx ((upd gx wx (nI (1048576 * 13 + 0)))) (((13, 0) :: Wx)) w749 hW750 (by omega) ⟨v774, v775, v776, v777, v778, v779, n780, n781, ⟨by omega, by omega, by omega, by omega, by omega, by omega, by omega⟩, ⟨by omega, by omega⟩, k784⟩ k754 k755 k762 (wR_push (op := 13) (pay := 0) iv40_4 (by omega) (by omega)) (CI_push (e := (13, 0)) iv40_5 (nJ ⟨by decide, by decide⟩)) (cOps_cons (e := (13, 0)) ⟨by decide, by decide⟩ iv40_6) (bot_push iv40_7) (by rw [wgt_hd0 (e := (13, 0)) (by decide)]; omega) iv40_9 kp756
              · skip
                have hp785 := hv_lt (x745.symm.trans c746) (by decide)
                refine x_bipush C (v := 10) dX12_readsCondition_68 (by decide) rfl ?_
                refine x_goto C (tgt := 75) dX12_readsCondition_70 (by decide) ?_
                refine x_vi C (As := [.int 10]) (rest := []) (m_opens10 E l a cd hG kf jn js jq wl40 hWl40 tp px le cx wx sm lm nz ⟨v73, v74, v75, v76, v77, v78, n79, n80, ⟨by omega, by omega, by omega, by omega, by omega, by omega, by omega⟩, ⟨by omega, by omega⟩, k83⟩ gx iv40_3 (by omega) (by omega)) mf_X12_opens w_1336 0 k83 rfl rfl rfl (Nat.le_of_ble_eq_true rfl) ⟨(Nat.le_of_ble_eq_true rfl), (Nat.le_of_ble_eq_true rfl)⟩ ⟨(Nat.le_of_ble_eq_true rfl), (Nat.le_of_ble_eq_true rfl)⟩ dX12_readsCondition_75 rfl (fun r787 w788 h786 => ?_)
                obtain ⟨hW789, kq790, zb791, x792⟩ := h786
                have k793 : w788[4]? = some (bA E (a 4) 260 tf) := keeps_at kq790 iv40_1 (by first | decide | omega | (dsimp only; omega))
                have k794 : w788[5]? = some (iA E (a 5) 260 fx) := keeps_at kq790 iv40_2 (by first | decide | omega | (dsimp only; omega))
                have kp795 := keeps_tr kq40 kq790 (fun q hq => by first | omega | (dsimp only at *; omega))
                rcases x792 with ⟨e796, mo797, k798⟩ | ⟨e799, mo800, k801⟩
                · refine x_top e796 ?_
                  obtain ⟨v802, v803, v804, v805, v806, v807, n808, n809, bo810, bo811, k812⟩ := mo797
                  refine x_if_ne C (tgt := 40) dX12_readsCondition_78 (by decide) rfl (fun h => absurd h (by decide)) (fun _ => ?_)
                  refine x_iconst C (v := 0) dX12_readsCondition_81 (by decide) rfl ?_
                  exact x_zret C hr hlk rfl dX12_readsCondition_82 ⟨hW789, kp795, (Or.inl rfl), (Or.inl ⟨rfl, ⟨px, cx, wx, _, _, ⟨⟨_, ⟨v802, v803, v804, v805, v806, v807, n808, n809, ⟨by omega, by omega, by omega, by omega, by omega, by omega, by omega⟩, ⟨by omega, by omega⟩, k812⟩⟩, k794, k798⟩⟩⟩)⟩
                · refine x_top e799 ?_
                  obtain ⟨v813, v814, v815, v816, v817, v818, n819, n820, bo821, bo822, k823⟩ := mo800
                  refine x_if_ne C (tgt := 40) dX12_readsCondition_78 (by decide) rfl (fun _ => ?_) (fun h => absurd h (by decide))
                  refine x_lv (lv1 := [(0, .ref (a 0))]) [0] rfl ?_
                  exact ih40 (px + 1) cx (wx + 1) nz fx ((upd gx wx (nI (1048576 * 10 + 0)))) (((10, 0) :: Wx)) w788 hW789 (by omega) ⟨v813, v814, v815, v816, v817, v818, n819, n820, ⟨by omega, by omega, by omega, by omega, by omega, by omega, by omega⟩, ⟨by omega, by omega⟩, k823⟩ k793 k794 k801 (wR_push (op := 10) (pay := 0) iv40_4 (by omega) (by omega)) (CI_push (e := (10, 0)) iv40_5 (nJ ⟨by decide, by decide⟩)) (cOps_cons (e := (10, 0)) ⟨by decide, by decide⟩ iv40_6) (bot_push iv40_7) (by rw [wgt_hd1 (e := (10, 0)) (by decide)]; omega) iv40_9 kp795
      refine x_lv (lv1 := [(0, .ref (a 0))]) [0] rfl ?_
      exact loop40 _ (pl + 1) cm (0 + 1) nu fs ((upd fw 0 (nI (1048576 * 13 + 0)))) (((13, 0) :: [])) w37 hW38 (Nat.lt_succ_self _) ⟨v62, v63, v64, v65, v66, v67, n68, n69, ⟨by omega, by omega, by omega, by omega, by omega, by omega, by omega⟩, ⟨by omega, by omega⟩, k72⟩ k42 k43 k50 (wR_push (op := 13) (pay := 0) (show wR fw [] 0 from rfl) (by omega) (by omega)) (CI_push (e := (13, 0)) (CI_start fs cm) (nJ ⟨by decide, by decide⟩)) cOps_one bot_one (by rw [wgt_hd0 (e := (13, 0)) (by decide)]; rw [wgt_0]; omega) (fun _ _ => rfl) kp44
  · skip
    refine x_aload_n C dX12_readsCondition_9 rfl 0 rfl rfl ?_
    refine x_iconst C (v := 1) dX12_readsCondition_10 (by decide) rfl ?_
    refine x_aload_n C dX12_readsCondition_11 rfl 0 rfl rfl ?_
    refine x_get C (ci := 11) (k := 5) 0 k11 rfl in_X12 (by decide) w_1123 rfl dX12_readsCondition_12 rfl ?_
    refine x_vi C (As := [.int 1, .int (nI pl)]) (rest := []) (m_wrongAt E l a cd hG kf jn js jq ws hW (1 : Int32) ((nI pl)) tp pl le cm wt sm lm nu ⟨v1, v2, v3, v4, v5, v6, n7, n8, ⟨by omega, by omega, by omega, by omega, by omega, by omega, by omega⟩, ⟨by omega, by omega⟩, k11⟩) mf_X12_wrongAt w_1324 0 k11 rfl rfl rfl (Nat.le_of_ble_eq_true rfl) ⟨(Nat.le_of_ble_eq_true rfl), (Nat.le_of_ble_eq_true rfl)⟩ ⟨(Nat.le_of_ble_eq_true rfl), (Nat.le_of_ble_eq_true rfl)⟩ dX12_readsCondition_15 rfl (fun r825 w826 h824 => ?_)
    obtain ⟨hW827, kq828, e829, x830⟩ := h824
    refine x_top e829 ?_
    have k831 : w826[4]? = some (bA E (a 4) 260 tf) := keeps_at kq828 htf (by first | decide | omega | (dsimp only; omega))
    have k832 : w826[5]? = some (iA E (a 5) 260 fs) := keeps_at kq828 hfs (by first | decide | omega | (dsimp only; omega))
    have k833 : w826[6]? = some (iA E (a 6) 260 fw) := keeps_at kq828 hfw (by first | decide | omega | (dsimp only; omega))
    have kp834 := keeps_tr kp0 kq828 (fun q hq => by first | omega | (dsimp only at *; omega))
    obtain ⟨v835, v836, v837, v838, v839, v840, n841, n842, bo843, bo844, k845⟩ := x830
    exact x_zret C hr hlk rfl dX12_readsCondition_18 ⟨hW827, kp834, (Or.inl rfl), (Or.inl ⟨rfl, ⟨pl, cm, wt, _, _, ⟨⟨_, ⟨v835, v836, v837, v838, v839, v840, n841, n842, ⟨by omega, by omega, by omega, by omega, by omega, by omega, by omega⟩, ⟨by omega, by omega⟩, k845⟩⟩, k832, k833⟩⟩⟩)⟩
