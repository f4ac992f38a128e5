theorem wtop_n2 {fw : Nat → Int32} {W : WL} {n : Nat} (h : nOps W) (hwr : wR fw ([] ++ W) n) : wtop W = -1 ∨ ∃ op : Nat, 7 ≤ op ∧ op ≤ 14 ∧ wtop W = nI op := by
  cases W with
  | nil => exact Or.inl rfl
  | cons e W => exact Or.inr ⟨e.1, (nOps_hd h).1, hwr.2.2.1, rfl⟩
theorem nJ {e : Nat × Nat} (h : e.1 ≠ 11 ∧ e.1 ≠ 12) : ¬ isJ e := fun q => q.elim h.1 h.2
theorem os_yes {fw : Nat → Int32} {Ws W0 : WL} {n b k : Nat} (h0 : W0.length = b) (hwr : wR fw (Ws ++ W0) n) (h1 : b ≤ k) (h2 : k < n) (c : fw k / 1048576 = 14) : ∃ e ∈ Ws, e.1 = 14 := by
  obtain ⟨e, he, e1, e2, e3⟩ := (wR_at h0 hwr).1 k h1 h2
  rw [e1, divW e2 e3] at c
  exact ⟨e, he, (nI_eq (b := 14) (by omega) (by omega)).mp c⟩
theorem os_no {fw : Nat → Int32} {Ws W0 : WL} {n b : Nat} (h0 : W0.length = b) (hwr : wR fw (Ws ++ W0) n) (c : ∀ j, b ≤ j → j < n → ¬ fw j / 1048576 = 14) : ∀ e ∈ Ws, ¬ e.1 = 14 := by
  intro e he q
  obtain ⟨e2, e3, k, k1, k2, k3⟩ := (wR_at h0 hwr).2 e he
  refine c k k1 k2 ?_
  rw [k3, divW e2 e3, q]
  decide
theorem no14 {Ws Wd : WL} (h : Ws = Wd ++ []) (h6 : ∀ e ∈ Wd, e.1 ≤ 6) (hx : ∃ e ∈ Ws, e.1 = 14) : False := by
  obtain ⟨e, he, q⟩ := hx
  rw [h, List.append_nil] at he
  have := h6 e he
  omega
theorem all14 {Ws Wd W1 : WL} {e : Nat × Nat} (h : Ws = Wd ++ (e :: W1)) (hn : ∀ e ∈ Ws, ¬ e.1 = 14) (he : e.1 = 14) : False := hn e (by rw [h]; exact List.mem_append_right _ List.mem_cons_self) he
theorem asc3 {Wn We W : WL} {e : Nat × Nat} : (Wn ++ e :: We) ++ W = Wn ++ (e :: (We ++ W)) := by simp
theorem len_app {fw : Nat → Int32} {We W : WL} {n : Nat} (h : wR fw (We ++ W) n) : We.length + W.length = n := by
  have q := wR_len h
  rw [List.length_append] at q
  exact q
theorem st_no {fw : Nat → Int32} {b k : Nat} (h : ∀ j, b ≤ j → j < k → ¬ fw j / 1048576 = 14) (c : ¬ fw k / 1048576 = 14) : ∀ j, b ≤ j → j < k + 1 → ¬ fw j / 1048576 = 14 := by
  intro j h1 h2
  by_cases q : j = k
  · subst q; exact c
  · exact h j h1 (by omega)
theorem dX12_closesSums_0 : decode cX12_closesSums 0 = .ok (.aload_n 0, 1) := by decide +kernel
theorem dX12_closesSums_1 : decode cX12_closesSums 1 = .ok (.invokevirtual 164, 3) := by decide +kernel
theorem dX12_closesSums_4 : decode cX12_closesSums 4 = .ok (.iconst 4, 1) := by decide +kernel
theorem dX12_closesSums_5 : decode cX12_closesSums 5 = .ok (.if_icmp .lt 12, 3) := by decide +kernel
theorem dX12_closesSums_8 : decode cX12_closesSums 8 = .ok (.aload_n 0, 1) := by decide +kernel
theorem dX12_closesSums_9 : decode cX12_closesSums 9 = .ok (.invokevirtual 164, 3) := by decide +kernel
theorem dX12_closesSums_12 : decode cX12_closesSums 12 = .ok (.bipush 6, 2) := by decide +kernel
theorem dX12_closesSums_14 : decode cX12_closesSums 14 = .ok (.if_icmp .le 23, 3) := by decide +kernel
theorem dX12_closesSums_17 : decode cX12_closesSums 17 = .ok (.iload_n 1, 1) := by decide +kernel
theorem dX12_closesSums_18 : decode cX12_closesSums 18 = .ok (.ifCond .eq 41, 3) := by decide +kernel
theorem dX12_closesSums_37 : decode cX12_closesSums 37 = .ok (.aload_n 0, 1) := by decide +kernel
theorem dX12_closesSums_38 : decode cX12_closesSums 38 = .ok (.aload_n 0, 1) := by decide +kernel
theorem dX12_closesSums_39 : decode cX12_closesSums 39 = .ok (.invokevirtual 164, 3) := by decide +kernel
theorem dX12_closesSums_42 : decode cX12_closesSums 42 = .ok (.iconst 0, 1) := by decide +kernel
theorem dX12_closesSums_43 : decode cX12_closesSums 43 = .ok (.invokevirtual 167, 3) := by decide +kernel
theorem dX12_closesSums_46 : decode cX12_closesSums 46 = .ok (.aload_n 0, 1) := by decide +kernel
theorem dX12_closesSums_47 : decode cX12_closesSums 47 = .ok (.aload_n 0, 1) := by decide +kernel
theorem dX12_closesSums_48 : decode cX12_closesSums 48 = .ok (.getfield 161, 3) := by decide +kernel
theorem dX12_closesSums_51 : decode cX12_closesSums 51 = .ok (.iconst 1, 1) := by decide +kernel
theorem dX12_closesSums_52 : decode cX12_closesSums 52 = .ok (.isub, 1) := by decide +kernel
theorem dX12_closesSums_53 : decode cX12_closesSums 53 = .ok (.putfield 161, 3) := by decide +kernel
theorem dX12_closesSums_56 : decode cX12_closesSums 56 = .ok (.goto (-56), 3) := by decide +kernel
theorem dX12_closesSums_59 : decode cX12_closesSums 59 = .ok (.return_, 1) := by decide +kernel
set_option maxRecDepth 20000 in
set_option maxHeartbeats 4000000 in
theorem m_closesSums0 (E : xE) (l : Launch) (a : Nat → Nat) (cd : Cd) (hG : Good cd) (ws : va_W) (hW : WX (okM E a cd) ws) (tp pl le cm wt sm lm : Nat) (nu : Int32) (h0 : MO a cd ws tp pl le cm wt sm lm nu) (fs : Nat → Int32) (hfs : ws[5]? = some (iA E (a 5) 260 fs)) (fw : Nat → Int32) (hfw : ws[6]? = some (iA E (a 6) 260 fw)) (Ws W0 : WL) (hwr : wR fw (Ws ++ W0) wt) (hso : sOps Ws) (hno : nOps W0) (c0 h : Nat) (hci : CI fs c0 cm (h + 1 + pend Ws) (Ws ++ W0)) (hh : h ≤ 2) (hphi : cm + wgt (Ws ++ W0) ≤ 240) (hwt : wt ≤ 240) : xV E l yX12_closesSums cX12_closesSums 2 1 0 0 [.ref (a 0), .int 0] ws (fun w => WX (okM E a cd) w ∧ keeps ws w (fun q => q = 0 ∨ q = 5) ∧ (∃ (cm2 wt2 : Nat) (fs2 : Nat → Int32) (Wd We : WL), Ws = Wd ++ We ∧ (∀ e ∈ Wd, e.1 ≤ 6) ∧ wR fw (We ++ W0) wt2 ∧ wt2 ≤ wt ∧ MO a cd w tp pl le cm2 wt2 sm lm nu ∧ w[5]? = some (iA E (a 5) 260 fs2) ∧ CI fs2 c0 cm2 (h + 1 + pend We) (We ++ W0) ∧ cm2 + wgt (We ++ W0) = cm + wgt (Ws ++ W0) ∧ (∀ k, k < c0 → fs2 k = fs k) ∧ sOps We)) := by
  refine xV_start (lv := [(0, .ref (a 0)), (1, .int 0)]) RX12 (by decide) rfl (Nat.le_of_ble_eq_true rfl) rfl (fun p e s m below meth c A C hr hlk hin => ?_)
  have kp0 : keeps ws ws (fun q => q = 0 ∨ q = 5) := keeps_rf
  obtain ⟨v1, v2, v3, v4, v5, v6, v7, n8, n9, bo10, bo11, zb12, k13⟩ := h0
  have loop0 : ∀ (fu0 : Nat) (cx : Nat) (wx : Nat) (fx : Nat → Int32) (Wd : WL) (We : WL) (wl0 : va_W), WX (okM E a cd) wl0 → We.length < fu0 → MO a cd wl0 tp pl le cx wx sm lm nu → wl0[5]? = some (iA E (a 5) 260 fx) → wl0[6]? = some (iA E (a 6) 260 fw) → Ws = Wd ++ We → (∀ e ∈ Wd, e.1 ≤ 6) → wR fw (We ++ W0) wx → CI fx c0 cx (h + 1 + pend We) (We ++ W0) → cx + wgt (We ++ W0) = cm + wgt (Ws ++ W0) ∧ wx ≤ wt → (∀ k, k < c0 → fx k = fs k) → sOps We → keeps ws wl0 (fun q => q = 0 ∨ q = 5) → X E p l e (xRm 1 0 0) s m ([.ref (a 0), .int 0] : List Value).toArray below meth c A 2 0 0 (MQ below (va_Qv (fun w => WX (okM E a cd) w ∧ keeps ws w (fun q => q = 0 ∨ q = 5) ∧ (∃ (cm2 wt2 : Nat) (fs2 : Nat → Int32) (Wd We : WL), Ws = Wd ++ We ∧ (∀ e ∈ Wd, e.1 ≤ 6) ∧ wR fw (We ++ W0) wt2 ∧ wt2 ≤ wt ∧ MO a cd w tp pl le cm2 wt2 sm lm nu ∧ w[5]? = some (iA E (a 5) 260 fs2) ∧ CI fs2 c0 cm2 (h + 1 + pend We) (We ++ W0) ∧ cm2 + wgt (We ++ W0) = cm + wgt (Ws ++ W0) ∧ (∀ k, k < c0 → fs2 k = fs k) ∧ sOps We)) (xB E A) A) ([.ref (a 0), .int 0] : List Value).toArray s 0 0 A) wl0 0 [(0, .ref (a 0)), (1, .int 0)] [] := by
    intro fu0
    induction fu0 with
    | zero => intro cx wx fx Wd We wl0 _ q; omega
    | succ fu0 ih0 =>
      intro cx wx fx Wd We wl0 hWl0 me0 iv0_0 iv0_1 iv0_2 iv0_3 iv0_4 iv0_5 iv0_6 iv0_7 iv0_8 iv0_9 kq0
      obtain ⟨v14, v15, v16, v17, v18, v19, v20, n21, n22, bo23, bo24, zb25, k26⟩ := iv0_0
      refine x_aload_n C dX12_closesSums_0 rfl 0 rfl rfl ?_
      rcases We with _ | ⟨e, W1⟩
      · rcases wtop_n2 hno iv0_5 with q | ⟨op, h7, h14, q⟩
        · skip
          refine x_vi C (As := []) (rest := []) (m_waitTop E l a cd hG wl0 hWl0 tp pl le cx wx sm lm nu ⟨v14, v15, v16, v17, v18, v19, v20, n21, n22, ⟨by omega, by omega, by omega, by omega, by omega, by omega, by omega⟩, ⟨by omega, by omega⟩, zb25, k26⟩ fw iv0_2 ([] ++ W0) iv0_5) mf_X12_waitTop w_1363 0 k26 rfl rfl rfl (Nat.le_of_ble_eq_true rfl) ⟨(Nat.le_of_ble_eq_true rfl), (Nat.le_of_ble_eq_true rfl)⟩ ⟨(Nat.le_of_ble_eq_true rfl), (Nat.le_of_ble_eq_true rfl)⟩ dX12_closesSums_1 rfl (fun r28 w29 h27 => ?_)
          obtain ⟨hW30, x31⟩ := h27
          refine x_ws hW30 ?_
          refine x_top (x31.trans (show wtop ([] ++ W0) = (-1) from q)) ?_
          refine x_iconst C (v := 4) dX12_closesSums_4 (by decide) rfl ?_
          refine x_icmp_lt C (tgt := 17) dX12_closesSums_5 (by decide) rfl (fun _ => ?_) (fun h => absurd h (by decide))
          refine x_iload_n C dX12_closesSums_17 rfl 1 rfl rfl ?_
          refine x_if_eq C (tgt := 59) dX12_closesSums_18 (by decide) rfl (fun _ => ?_) (fun h => absurd h (by decide))
          exact x_vret C hr hlk dX12_closesSums_59 ⟨hWl0, kq0, ⟨cx, wx, fx, Wd, [], iv0_3, iv0_4, iv0_5, by omega, ⟨v14, v15, v16, v17, v18, v19, v20, n21, n22, ⟨by omega, by omega, by omega, by omega, by omega, by omega, by omega⟩, ⟨by omega, by omega⟩, zb25, k26⟩, iv0_1, iv0_6, iv0_7.1, iv0_8, iv0_9⟩⟩
        · skip
          refine x_vi C (As := []) (rest := []) (m_waitTop E l a cd hG wl0 hWl0 tp pl le cx wx sm lm nu ⟨v14, v15, v16, v17, v18, v19, v20, n21, n22, ⟨by omega, by omega, by omega, by omega, by omega, by omega, by omega⟩, ⟨by omega, by omega⟩, zb25, k26⟩ fw iv0_2 ([] ++ W0) iv0_5) mf_X12_waitTop w_1363 0 k26 rfl rfl rfl (Nat.le_of_ble_eq_true rfl) ⟨(Nat.le_of_ble_eq_true rfl), (Nat.le_of_ble_eq_true rfl)⟩ ⟨(Nat.le_of_ble_eq_true rfl), (Nat.le_of_ble_eq_true rfl)⟩ dX12_closesSums_1 rfl (fun r33 w34 h32 => ?_)
          obtain ⟨hW35, x36⟩ := h32
          refine x_ws hW35 ?_
          refine x_top (x36.trans (show wtop ([] ++ W0) = (nI op) from q)) ?_
          refine x_iconst C (v := 4) dX12_closesSums_4 (by decide) rfl ?_
          refine x_icmp_lt C (tgt := 17) dX12_closesSums_5 (by decide) rfl (fun c37 => ?_) (fun c37 => ?_)
          · skip
            have nf38 := nI_lt' (a := op) (b := 4) c37 (by omega) (by omega)
            refine x_iload_n C dX12_closesSums_17 rfl 1 rfl rfl ?_
            refine x_if_eq C (tgt := 59) dX12_closesSums_18 (by decide) rfl (fun _ => ?_) (fun h => absurd h (by decide))
            exact x_vret C hr hlk dX12_closesSums_59 ⟨hWl0, kq0, ⟨cx, wx, fx, Wd, [], iv0_3, iv0_4, iv0_5, by omega, ⟨v14, v15, v16, v17, v18, v19, v20, n21, n22, ⟨by omega, by omega, by omega, by omega, by omega, by omega, by omega⟩, ⟨by omega, by omega⟩, zb25, k26⟩, iv0_1, iv0_6, iv0_7.1, iv0_8, iv0_9⟩⟩
          · skip
            have nf39 := nI_nlt' (a := op) (b := 4) c37 (by omega) (by omega)
            refine x_aload_n C dX12_closesSums_8 rfl 0 rfl rfl ?_
            refine x_vi C (As := []) (rest := []) (m_waitTop E l a cd hG wl0 hWl0 tp pl le cx wx sm lm nu ⟨v14, v15, v16, v17, v18, v19, v20, n21, n22, ⟨by omega, by omega, by omega, by omega, by omega, by omega, by omega⟩, ⟨by omega, by omega⟩, zb25, k26⟩ fw iv0_2 ([] ++ W0) iv0_5) mf_X12_waitTop w_1363 0 k26 rfl rfl rfl (Nat.le_of_ble_eq_true rfl) ⟨(Nat.le_of_ble_eq_true rfl), (Nat.le_of_ble_eq_true rfl)⟩ ⟨(Nat.le_of_ble_eq_true rfl), (Nat.le_of_ble_eq_true rfl)⟩ dX12_closesSums_9 rfl (fun r41 w42 h40 => ?_)
            obtain ⟨hW43, x44⟩ := h40
            refine x_ws hW43 ?_
            refine x_top (x44.trans (show wtop ([] ++ W0) = (nI op) from q)) ?_
            refine x_bipush C (v := 6) dX12_closesSums_12 (by decide) rfl ?_
            refine x_icmp_le C (tgt := 37) dX12_closesSums_14 (by decide) rfl (fun c45 => ?_) (fun c45 => ?_)
            · skip
              have nf46 := nI_le' (a := op) (b := 6) c45 (by omega) (by omega)
              exact False.elim (by omega)
            · skip
              have nf47 := nI_nle' (a := op) (b := 6) c45 (by omega) (by omega)
              refine x_iload_n C dX12_closesSums_17 rfl 1 rfl rfl ?_
              refine x_if_eq C (tgt := 59) dX12_closesSums_18 (by decide) rfl (fun _ => ?_) (fun h => absurd h (by decide))
              exact x_vret C hr hlk dX12_closesSums_59 ⟨hWl0, kq0, ⟨cx, wx, fx, Wd, [], iv0_3, iv0_4, iv0_5, by omega, ⟨v14, v15, v16, v17, v18, v19, v20, n21, n22, ⟨by omega, by omega, by omega, by omega, by omega, by omega, by omega⟩, ⟨by omega, by omega⟩, zb25, k26⟩, iv0_1, iv0_6, iv0_7.1, iv0_8, iv0_9⟩⟩
      · have hs1 := (sOps_hd iv0_9).1
        have hw1 := iv0_5.1
        have hl1 : (e :: W1).length = W1.length + 1 := rfl
        refine x_vi C (As := []) (rest := []) (m_waitTop E l a cd hG wl0 hWl0 tp pl le cx wx sm lm nu ⟨v14, v15, v16, v17, v18, v19, v20, n21, n22, ⟨by omega, by omega, by omega, by omega, by omega, by omega, by omega⟩, ⟨by omega, by omega⟩, zb25, k26⟩ fw iv0_2 (e :: W1 ++ W0) iv0_5) mf_X12_waitTop w_1363 0 k26 rfl rfl rfl (Nat.le_of_ble_eq_true rfl) ⟨(Nat.le_of_ble_eq_true rfl), (Nat.le_of_ble_eq_true rfl)⟩ ⟨(Nat.le_of_ble_eq_true rfl), (Nat.le_of_ble_eq_true rfl)⟩ dX12_closesSums_1 rfl (fun r49 w50 h48 => ?_)
        obtain ⟨hW51, x52⟩ := h48
        refine x_ws hW51 ?_
        refine x_top (x52.trans (show wtop (e :: W1 ++ W0) = (nI (e.1)) from rfl)) ?_
        refine x_iconst C (v := 4) dX12_closesSums_4 (by decide) rfl ?_
        refine x_icmp_lt C (tgt := 17) dX12_closesSums_5 (by decide) rfl (fun c53 => ?_) (fun c53 => ?_)
        · skip
          have nf54 := nI_lt' (a := (e.1)) (b := 4) c53 (by omega) (by omega)
          refine x_iload_n C dX12_closesSums_17 rfl 1 rfl rfl ?_
          refine x_if_eq C (tgt := 59) dX12_closesSums_18 (by decide) rfl (fun _ => ?_) (fun h => absurd h (by decide))
          exact x_vret C hr hlk dX12_closesSums_59 ⟨hWl0, kq0, ⟨cx, wx, fx, Wd, (e :: W1), iv0_3, iv0_4, iv0_5, by omega, ⟨v14, v15, v16, v17, v18, v19, v20, n21, n22, ⟨by omega, by omega, by omega, by omega, by omega, by omega, by omega⟩, ⟨by omega, by omega⟩, zb25, k26⟩, iv0_1, iv0_6, iv0_7.1, iv0_8, iv0_9⟩⟩
        · skip
          have nf55 := nI_nlt' (a := (e.1)) (b := 4) c53 (by omega) (by omega)
          refine x_aload_n C dX12_closesSums_8 rfl 0 rfl rfl ?_
          refine x_vi C (As := []) (rest := []) (m_waitTop E l a cd hG wl0 hWl0 tp pl le cx wx sm lm nu ⟨v14, v15, v16, v17, v18, v19, v20, n21, n22, ⟨by omega, by omega, by omega, by omega, by omega, by omega, by omega⟩, ⟨by omega, by omega⟩, zb25, k26⟩ fw iv0_2 (e :: W1 ++ W0) iv0_5) mf_X12_waitTop w_1363 0 k26 rfl rfl rfl (Nat.le_of_ble_eq_true rfl) ⟨(Nat.le_of_ble_eq_true rfl), (Nat.le_of_ble_eq_true rfl)⟩ ⟨(Nat.le_of_ble_eq_true rfl), (Nat.le_of_ble_eq_true rfl)⟩ dX12_closesSums_9 rfl (fun r57 w58 h56 => ?_)
          obtain ⟨hW59, x60⟩ := h56
          refine x_ws hW59 ?_
          refine x_top (x60.trans (show wtop (e :: W1 ++ W0) = (nI (e.1)) from rfl)) ?_
          refine x_bipush C (v := 6) dX12_closesSums_12 (by decide) rfl ?_
          refine x_icmp_le C (tgt := 37) dX12_closesSums_14 (by decide) rfl (fun c61 => ?_) (fun c61 => ?_)
          · skip
            have nf62 := nI_le' (a := (e.1)) (b := 6) c61 (by omega) (by omega)
            have h26 : 2 ≤ e.1 ∧ e.1 ≤ 6 := by omega
            have hpd : pend (e :: W1) = 1 + pend W1 := by show pd1 e.1 + pend W1 = _; rw [pd1_1 h26]
            have hwg : wgt (e :: W1 ++ W0) = 1 + wgt (W1 ++ W0) := by show wg1 e.1 + wgt (W1 ++ W0) = _; rw [wg1_1 (Or.inl h26)]
            have hpl2 := pend_len (W := W1)
            have hlen := len_app iv0_5
            have hcx := CI_le iv0_6
            refine x_aload_n C dX12_closesSums_37 rfl 0 rfl rfl ?_
            refine x_aload_n C dX12_closesSums_38 rfl 0 rfl rfl ?_
            refine x_vi C (As := []) (rest := [.ref (a 0)]) (m_waitTop E l a cd hG wl0 hWl0 tp pl le cx wx sm lm nu ⟨v14, v15, v16, v17, v18, v19, v20, n21, n22, ⟨by omega, by omega, by omega, by omega, by omega, by omega, by omega⟩, ⟨by omega, by omega⟩, zb25, k26⟩ fw iv0_2 (e :: W1 ++ W0) iv0_5) mf_X12_waitTop w_1363 0 k26 rfl rfl rfl (Nat.le_of_ble_eq_true rfl) ⟨(Nat.le_of_ble_eq_true rfl), (Nat.le_of_ble_eq_true rfl)⟩ ⟨(Nat.le_of_ble_eq_true rfl), (Nat.le_of_ble_eq_true rfl)⟩ dX12_closesSums_39 rfl (fun r64 w65 h63 => ?_)
            obtain ⟨hW66, x67⟩ := h63
            refine x_ws hW66 ?_
            refine x_top (x67.trans (show wtop (e :: W1 ++ W0) = (nI (e.1)) from rfl)) ?_
            refine x_iconst C (v := 0) dX12_closesSums_42 (by decide) rfl ?_
            refine x_vv C (As := [.int (nI (e.1)), .int 0]) (rest := []) (m_notes E l a cd hG wl0 hWl0 (e.1) 0 (by omega) (by omega) tp pl le cx wx sm lm nu ⟨v14, v15, v16, v17, v18, v19, v20, n21, n22, ⟨by omega, by omega, by omega, by omega, by omega, by omega, by omega⟩, ⟨by omega, by omega⟩, zb25, k26⟩ fx iv0_1 (by omega)) mf_X12_notes w_1349 0 k26 rfl rfl rfl (Nat.le_of_ble_eq_true rfl) ⟨(Nat.le_of_ble_eq_true rfl), (Nat.le_of_ble_eq_true rfl)⟩ ⟨(Nat.le_of_ble_eq_true rfl), (Nat.le_of_ble_eq_true rfl)⟩ dX12_closesSums_43 rfl (fun w70 h68 => ?_)
            obtain ⟨hW71, kq72, x73⟩ := h68
            have k74 : w70[6]? = some (iA E (a 6) 260 fw) := keeps_at kq72 iv0_2 (by first | decide | omega | (dsimp only; omega))
            have kp75 := keeps_tr kq0 kq72 (fun q hq => by first | omega | (dsimp only at *; omega))
            obtain ⟨mo76, k77⟩ := x73
            obtain ⟨v78, v79, v80, v81, v82, v83, v84, n85, n86, bo87, bo88, zb89, k90⟩ := mo76
            refine x_aload_n C dX12_closesSums_46 rfl 0 rfl rfl ?_
            refine x_aload_n C dX12_closesSums_47 rfl 0 rfl rfl ?_
            refine x_get C (ci := 11) (k := 11) 0 k90 rfl in_X12 (by decide) w_1129 rfl dX12_closesSums_48 rfl ?_
            refine x_iconst C (v := 1) dX12_closesSums_51 (by decide) rfl ?_
            refine x_isub C (v := (nI (wx - 1))) dX12_closesSums_52 (pk_sub (a := wx) (b := 1) (by omega)) rfl ?_
            obtain ⟨w91, hw92⟩ : ∃ w : va_W, w = List.set w70 0 (ob (a 0) 11 [.ref (a 1), .ref (a 2), .ref (a 3), .ref (a 4), .int (nI tp), .int (nI pl), .int (nI le), .int v78, .int nu, .int v79, .int (nI (cx + 1)), .int (nI (wx - 1)), .int (nI sm), .int (nI (cd.2.2.2.2.2)), .ref (a 5), .ref (a 6), .ref (a 7), .ref (a 8), .ref (a 9), .ref (a 10), .ref (a 11), .ref (a 12), .ref (a 13), .ref (a 14), .ref (a 15), .ref (a 16), .ref (a 17), .int (nI lm), .ref (a 18), .ref (a 19), .ref (a 20), .ref (a 21), .int v80, .int v81, .int v82, .int v83, .int (nI n85), .int (nI n86), .ref (a 22), .ref (a 23), .ref (a 24), .ref (a 25), .ref (a 26), .ref (a 27), .ref (a 28), .ref (a 29), .ref (a 30), .int v84]) := ⟨_, rfl⟩
            refine x_put C (ci := 11) (k := 11) (ty := .int) 0 k90 rfl in_X12 tyX12 tyX12_ok nmX12 (by decide) w_1129 rfl rfl rfl rfl (Nat.le_of_ble_eq_true rfl) hw92.symm dX12_closesSums_53 rfl ?_
            have hW93 : WX (okM E a cd) w91 := by rw [hw92]; exact hW71.set (k := 0) rfl ⟨tp, pl, le, v78, nu, v79, (cx + 1), (wx - 1), sm, lm, v80, v81, v82, v83, n85, n86, v84, by omega, by omega, by omega, by omega, by omega, by omega, by omega, by omega, by omega, zb89, rfl⟩
            have k94 : w91[6]? = some (iA E (a 6) 260 fw) := by rw [hw92]; exact set_ne k74 (by decide)
            have k95 : w91[0]? = some (ob (a 0) 11 [.ref (a 1), .ref (a 2), .ref (a 3), .ref (a 4), .int (nI tp), .int (nI pl), .int (nI le), .int v78, .int nu, .int v79, .int (nI (cx + 1)), .int (nI (wx - 1)), .int (nI sm), .int (nI (cd.2.2.2.2.2)), .ref (a 5), .ref (a 6), .ref (a 7), .ref (a 8), .ref (a 9), .ref (a 10), .ref (a 11), .ref (a 12), .ref (a 13), .ref (a 14), .ref (a 15), .ref (a 16), .ref (a 17), .int (nI lm), .ref (a 18), .ref (a 19), .ref (a 20), .ref (a 21), .int v80, .int v81, .int v82, .int v83, .int (nI n85), .int (nI n86), .ref (a 22), .ref (a 23), .ref (a 24), .ref (a 25), .ref (a 26), .ref (a 27), .ref (a 28), .ref (a 29), .ref (a 30), .int v84]) := by rw [hw92]; exact set_eq k90
            have k96 : w91[5]? = some (iA E (a 5) 260 (upd fx cx (nI (1048576 * (e.1) + 0)))) := by rw [hw92]; exact set_ne k77 (by decide)
            have kp97 := keeps_set kp75 hw92 (by first | exact rfl | decide | omega | (dsimp only; omega))
            refine x_goto C (tgt := 0) dX12_closesSums_56 (by decide) ?_
            refine x_lv (lv1 := [(0, .ref (a 0)), (1, .int 0)]) [0, 1] rfl ?_
            exact ih0 (cx + 1) (wx - 1) ((upd fx cx (nI (1048576 * (e.1) + 0)))) (Wd ++ [e]) W1 w91 hW93 (by omega) ⟨v78, v79, v80, v81, v82, v83, v84, n85, n86, ⟨by omega, by omega, by omega, by omega, by omega, by omega, by omega⟩, ⟨by omega, by omega⟩, zb89, k95⟩ k96 k94 (iv0_3.trans app_one) (d6_app iv0_4 (by omega)) iv0_5.2.2.2.2 (CI_pop (e := e) (CI_note (op := e.1) (v := 0) (h' := h + 1 + pend W1) iv0_6 (by omega) (by omega) (by omega) (Or.inr (Or.inr (Or.inr ⟨by omega, by omega, by omega, by omega⟩)))) (nJ ⟨by omega, by omega⟩)) (by omega) (ag_upd iv0_8 (by omega)) (sOps_hd iv0_9).2 kp97
          · skip
            have nf98 := nI_nle' (a := (e.1)) (b := 6) c61 (by omega) (by omega)
            refine x_iload_n C dX12_closesSums_17 rfl 1 rfl rfl ?_
            refine x_if_eq C (tgt := 59) dX12_closesSums_18 (by decide) rfl (fun _ => ?_) (fun h => absurd h (by decide))
            exact x_vret C hr hlk dX12_closesSums_59 ⟨hWl0, kq0, ⟨cx, wx, fx, Wd, (e :: W1), iv0_3, iv0_4, iv0_5, by omega, ⟨v14, v15, v16, v17, v18, v19, v20, n21, n22, ⟨by omega, by omega, by omega, by omega, by omega, by omega, by omega⟩, ⟨by omega, by omega⟩, zb25, k26⟩, iv0_1, iv0_6, iv0_7.1, iv0_8, iv0_9⟩⟩
  refine x_lv (lv1 := [(0, .ref (a 0)), (1, .int 0)]) [0, 1] rfl ?_
  exact loop0 _ cm wt fs [] Ws ws hW (Nat.lt_succ_self _) ⟨v1, v2, v3, v4, v5, v6, v7, n8, n9, ⟨by omega, by omega, by omega, by omega, by omega, by omega, by omega⟩, ⟨by omega, by omega⟩, zb12, k13⟩ hfs hfw rfl (fun z hz => absurd hz List.not_mem_nil) hwr hci ⟨rfl, Nat.le_refl _⟩ (fun _ _ => rfl) hso kp0
theorem dX12_closesSums_21 : decode cX12_closesSums 21 = .ok (.aload_n 0, 1) := by decide +kernel
theorem dX12_closesSums_22 : decode cX12_closesSums 22 = .ok (.invokevirtual 164, 3) := by decide +kernel
theorem dX12_closesSums_25 : decode cX12_closesSums 25 = .ok (.iconst 2, 1) := by decide +kernel
theorem dX12_closesSums_26 : decode cX12_closesSums 26 = .ok (.if_icmp .eq 11, 3) := by decide +kernel
theorem dX12_closesSums_29 : decode cX12_closesSums 29 = .ok (.aload_n 0, 1) := by decide +kernel
theorem dX12_closesSums_30 : decode cX12_closesSums 30 = .ok (.invokevirtual 164, 3) := by decide +kernel
theorem dX12_closesSums_33 : decode cX12_closesSums 33 = .ok (.iconst 3, 1) := by decide +kernel
theorem dX12_closesSums_34 : decode cX12_closesSums 34 = .ok (.if_icmp .ne 25, 3) := by decide +kernel
set_option maxRecDepth 20000 in
set_option maxHeartbeats 4000000 in
theorem m_closesSums1 (E : xE) (l : Launch) (a : Nat → Nat) (cd : Cd) (hG : Good cd) (ws : va_W) (hW : WX (okM E a cd) ws) (tp pl le cm wt sm lm : Nat) (nu : Int32) (h0 : MO a cd ws tp pl le cm wt sm lm nu) (fs : Nat → Int32) (hfs : ws[5]? = some (iA E (a 5) 260 fs)) (fw : Nat → Int32) (hfw : ws[6]? = some (iA E (a 6) 260 fw)) (Ws W0 : WL) (hwr : wR fw (Ws ++ W0) wt) (hso : sOps Ws) (hno : nOps W0) (c0 h : Nat) (hci : CI fs c0 cm (h + 1 + pend Ws) (Ws ++ W0)) (hh : h ≤ 2) (hphi : cm + wgt (Ws ++ W0) ≤ 240) (hwt : wt ≤ 240) : xV E l yX12_closesSums cX12_closesSums 2 1 0 0 [.ref (a 0), .int 1] ws (fun w => WX (okM E a cd) w ∧ keeps ws w (fun q => q = 0 ∨ q = 5) ∧ (∃ (cm2 wt2 : Nat) (fs2 : Nat → Int32) (Wd We : WL), Ws = Wd ++ We ∧ (∀ e ∈ Wd, e.1 ≤ 6) ∧ wR fw (We ++ W0) wt2 ∧ wt2 ≤ wt ∧ MO a cd w tp pl le cm2 wt2 sm lm nu ∧ w[5]? = some (iA E (a 5) 260 fs2) ∧ CI fs2 c0 cm2 (h + 1 + pend We) (We ++ W0) ∧ cm2 + wgt (We ++ W0) = cm + wgt (Ws ++ W0) ∧ (∀ k, k < c0 → fs2 k = fs k) ∧ sOps We ∧ (We = [] ∨ ∃ (e : Nat × Nat) (W1 : WL), We = e :: W1 ∧ e.1 = 14))) := by
  refine xV_start (lv := [(0, .ref (a 0)), (1, .int 1)]) RX12 (by decide) rfl (Nat.le_of_ble_eq_true rfl) rfl (fun p e s m below meth c A C hr hlk hin => ?_)
  have kp0 : keeps ws ws (fun q => q = 0 ∨ q = 5) := keeps_rf
  obtain ⟨v1, v2, v3, v4, v5, v6, v7, n8, n9, bo10, bo11, zb12, k13⟩ := h0
  have loop0 : ∀ (fu0 : Nat) (cx : Nat) (wx : Nat) (fx : Nat → Int32) (Wd : WL) (We : WL) (wl0 : va_W), WX (okM E a cd) wl0 → We.length < fu0 → MO a cd wl0 tp pl le cx wx sm lm nu → wl0[5]? = some (iA E (a 5) 260 fx) → wl0[6]? = some (iA E (a 6) 260 fw) → Ws = Wd ++ We → (∀ e ∈ Wd, e.1 ≤ 6) → wR fw (We ++ W0) wx → CI fx c0 cx (h + 1 + pend We) (We ++ W0) → cx + wgt (We ++ W0) = cm + wgt (Ws ++ W0) ∧ wx ≤ wt → (∀ k, k < c0 → fx k = fs k) → sOps We → keeps ws wl0 (fun q => q = 0 ∨ q = 5) → X E p l e (xRm 1 0 0) s m ([.ref (a 0), .int 1] : List Value).toArray below meth c A 2 0 0 (MQ below (va_Qv (fun w => WX (okM E a cd) w ∧ keeps ws w (fun q => q = 0 ∨ q = 5) ∧ (∃ (cm2 wt2 : Nat) (fs2 : Nat → Int32) (Wd We : WL), Ws = Wd ++ We ∧ (∀ e ∈ Wd, e.1 ≤ 6) ∧ wR fw (We ++ W0) wt2 ∧ wt2 ≤ wt ∧ MO a cd w tp pl le cm2 wt2 sm lm nu ∧ w[5]? = some (iA E (a 5) 260 fs2) ∧ CI fs2 c0 cm2 (h + 1 + pend We) (We ++ W0) ∧ cm2 + wgt (We ++ W0) = cm + wgt (Ws ++ W0) ∧ (∀ k, k < c0 → fs2 k = fs k) ∧ sOps We ∧ (We = [] ∨ ∃ (e : Nat × Nat) (W1 : WL), We = e :: W1 ∧ e.1 = 14))) (xB E A) A) ([.ref (a 0), .int 1] : List Value).toArray s 0 0 A) wl0 0 [(0, .ref (a 0)), (1, .int 1)] [] := by
    intro fu0
    induction fu0 with
    | zero => intro cx wx fx Wd We wl0 _ q; omega
    | succ fu0 ih0 =>
      intro cx wx fx Wd We wl0 hWl0 me0 iv0_0 iv0_1 iv0_2 iv0_3 iv0_4 iv0_5 iv0_6 iv0_7 iv0_8 iv0_9 kq0
      obtain ⟨v14, v15, v16, v17, v18, v19, v20, n21, n22, bo23, bo24, zb25, k26⟩ := iv0_0
      refine x_aload_n C dX12_closesSums_0 rfl 0 rfl rfl ?_
      rcases We with _ | ⟨e, W1⟩
      · rcases wtop_n2 hno iv0_5 with q | ⟨op, h7, h14, q⟩
        · skip
          refine x_vi C (As := []) (rest := []) (m_waitTop E l a cd hG wl0 hWl0 tp pl le cx wx sm lm nu ⟨v14, v15, v16, v17, v18, v19, v20, n21, n22, ⟨by omega, by omega, by omega, by omega, by omega, by omega, by omega⟩, ⟨by omega, by omega⟩, zb25, k26⟩ fw iv0_2 ([] ++ W0) iv0_5) mf_X12_waitTop w_1363 0 k26 rfl rfl rfl (Nat.le_of_ble_eq_true rfl) ⟨(Nat.le_of_ble_eq_true rfl), (Nat.le_of_ble_eq_true rfl)⟩ ⟨(Nat.le_of_ble_eq_true rfl), (Nat.le_of_ble_eq_true rfl)⟩ dX12_closesSums_1 rfl (fun r28 w29 h27 => ?_)
          obtain ⟨hW30, x31⟩ := h27
          refine x_ws hW30 ?_
          refine x_top (x31.trans (show wtop ([] ++ W0) = (-1) from q)) ?_
          refine x_iconst C (v := 4) dX12_closesSums_4 (by decide) rfl ?_
          refine x_icmp_lt C (tgt := 17) dX12_closesSums_5 (by decide) rfl (fun _ => ?_) (fun h => absurd h (by decide))
          refine x_iload_n C dX12_closesSums_17 rfl 1 rfl rfl ?_
          refine x_if_eq C (tgt := 59) dX12_closesSums_18 (by decide) rfl (fun h => absurd h (by decide)) (fun _ => ?_)
          refine x_aload_n C dX12_closesSums_21 rfl 0 rfl rfl ?_
          refine x_vi C (As := []) (rest := []) (m_waitTop E l a cd hG wl0 hWl0 tp pl le cx wx sm lm nu ⟨v14, v15, v16, v17, v18, v19, v20, n21, n22, ⟨by omega, by omega, by omega, by omega, by omega, by omega, by omega⟩, ⟨by omega, by omega⟩, zb25, k26⟩ fw iv0_2 ([] ++ W0) iv0_5) mf_X12_waitTop w_1363 0 k26 rfl rfl rfl (Nat.le_of_ble_eq_true rfl) ⟨(Nat.le_of_ble_eq_true rfl), (Nat.le_of_ble_eq_true rfl)⟩ ⟨(Nat.le_of_ble_eq_true rfl), (Nat.le_of_ble_eq_true rfl)⟩ dX12_closesSums_22 rfl (fun r33 w34 h32 => ?_)
          obtain ⟨hW35, x36⟩ := h32
          refine x_ws hW35 ?_
          refine x_top (x36.trans (show wtop ([] ++ W0) = (-1) from q)) ?_
          refine x_iconst C (v := 2) dX12_closesSums_25 (by decide) rfl ?_
          refine x_icmp_eq C (tgt := 37) dX12_closesSums_26 (by decide) rfl (fun h => absurd h (by decide)) (fun _ => ?_)
          refine x_aload_n C dX12_closesSums_29 rfl 0 rfl rfl ?_
          refine x_vi C (As := []) (rest := []) (m_waitTop E l a cd hG wl0 hWl0 tp pl le cx wx sm lm nu ⟨v14, v15, v16, v17, v18, v19, v20, n21, n22, ⟨by omega, by omega, by omega, by omega, by omega, by omega, by omega⟩, ⟨by omega, by omega⟩, zb25, k26⟩ fw iv0_2 ([] ++ W0) iv0_5) mf_X12_waitTop w_1363 0 k26 rfl rfl rfl (Nat.le_of_ble_eq_true rfl) ⟨(Nat.le_of_ble_eq_true rfl), (Nat.le_of_ble_eq_true rfl)⟩ ⟨(Nat.le_of_ble_eq_true rfl), (Nat.le_of_ble_eq_true rfl)⟩ dX12_closesSums_30 rfl (fun r38 w39 h37 => ?_)
          obtain ⟨hW40, x41⟩ := h37
          refine x_ws hW40 ?_
          refine x_top (x41.trans (show wtop ([] ++ W0) = (-1) from q)) ?_
          refine x_iconst C (v := 3) dX12_closesSums_33 (by decide) rfl ?_
          refine x_icmp_ne C (tgt := 59) dX12_closesSums_34 (by decide) rfl (fun _ => ?_) (fun h => absurd h (by decide))
          exact x_vret C hr hlk dX12_closesSums_59 ⟨hWl0, kq0, ⟨cx, wx, fx, Wd, [], iv0_3, iv0_4, iv0_5, by omega, ⟨v14, v15, v16, v17, v18, v19, v20, n21, n22, ⟨by omega, by omega, by omega, by omega, by omega, by omega, by omega⟩, ⟨by omega, by omega⟩, zb25, k26⟩, iv0_1, iv0_6, iv0_7.1, iv0_8, iv0_9, Or.inl rfl⟩⟩
        · skip
          refine x_vi C (As := []) (rest := []) (m_waitTop E l a cd hG wl0 hWl0 tp pl le cx wx sm lm nu ⟨v14, v15, v16, v17, v18, v19, v20, n21, n22, ⟨by omega, by omega, by omega, by omega, by omega, by omega, by omega⟩, ⟨by omega, by omega⟩, zb25, k26⟩ fw iv0_2 ([] ++ W0) iv0_5) mf_X12_waitTop w_1363 0 k26 rfl rfl rfl (Nat.le_of_ble_eq_true rfl) ⟨(Nat.le_of_ble_eq_true rfl), (Nat.le_of_ble_eq_true rfl)⟩ ⟨(Nat.le_of_ble_eq_true rfl), (Nat.le_of_ble_eq_true rfl)⟩ dX12_closesSums_1 rfl (fun r43 w44 h42 => ?_)
          obtain ⟨hW45, x46⟩ := h42
          refine x_ws hW45 ?_
          refine x_top (x46.trans (show wtop ([] ++ W0) = (nI op) from q)) ?_
          refine x_iconst C (v := 4) dX12_closesSums_4 (by decide) rfl ?_
          refine x_icmp_lt C (tgt := 17) dX12_closesSums_5 (by decide) rfl (fun c47 => ?_) (fun c47 => ?_)
          · skip
            have nf48 := nI_lt' (a := op) (b := 4) c47 (by omega) (by omega)
            refine x_iload_n C dX12_closesSums_17 rfl 1 rfl rfl ?_
            refine x_if_eq C (tgt := 59) dX12_closesSums_18 (by decide) rfl (fun h => absurd h (by decide)) (fun _ => ?_)
            refine x_aload_n C dX12_closesSums_21 rfl 0 rfl rfl ?_
            refine x_vi C (As := []) (rest := []) (m_waitTop E l a cd hG wl0 hWl0 tp pl le cx wx sm lm nu ⟨v14, v15, v16, v17, v18, v19, v20, n21, n22, ⟨by omega, by omega, by omega, by omega, by omega, by omega, by omega⟩, ⟨by omega, by omega⟩, zb25, k26⟩ fw iv0_2 ([] ++ W0) iv0_5) mf_X12_waitTop w_1363 0 k26 rfl rfl rfl (Nat.le_of_ble_eq_true rfl) ⟨(Nat.le_of_ble_eq_true rfl), (Nat.le_of_ble_eq_true rfl)⟩ ⟨(Nat.le_of_ble_eq_true rfl), (Nat.le_of_ble_eq_true rfl)⟩ dX12_closesSums_22 rfl (fun r50 w51 h49 => ?_)
            obtain ⟨hW52, x53⟩ := h49
            refine x_ws hW52 ?_
            refine x_top (x53.trans (show wtop ([] ++ W0) = (nI op) from q)) ?_
            refine x_iconst C (v := 2) dX12_closesSums_25 (by decide) rfl ?_
            refine x_icmp_eq C (tgt := 37) dX12_closesSums_26 (by decide) rfl (fun c54 => ?_) (fun c54 => ?_)
            · skip
              have nf55 : op = 2 := (nI_eq (by omega) (by omega)).mp c54
              exact False.elim (by omega)
            · skip
              have nf56 : ¬ op = 2 := fun q => c54 (congrArg nI q)
              refine x_aload_n C dX12_closesSums_29 rfl 0 rfl rfl ?_
              refine x_vi C (As := []) (rest := []) (m_waitTop E l a cd hG wl0 hWl0 tp pl le cx wx sm lm nu ⟨v14, v15, v16, v17, v18, v19, v20, n21, n22, ⟨by omega, by omega, by omega, by omega, by omega, by omega, by omega⟩, ⟨by omega, by omega⟩, zb25, k26⟩ fw iv0_2 ([] ++ W0) iv0_5) mf_X12_waitTop w_1363 0 k26 rfl rfl rfl (Nat.le_of_ble_eq_true rfl) ⟨(Nat.le_of_ble_eq_true rfl), (Nat.le_of_ble_eq_true rfl)⟩ ⟨(Nat.le_of_ble_eq_true rfl), (Nat.le_of_ble_eq_true rfl)⟩ dX12_closesSums_30 rfl (fun r58 w59 h57 => ?_)
              obtain ⟨hW60, x61⟩ := h57
              refine x_ws hW60 ?_
              refine x_top (x61.trans (show wtop ([] ++ W0) = (nI op) from q)) ?_
              refine x_iconst C (v := 3) dX12_closesSums_33 (by decide) rfl ?_
              refine x_icmp_ne C (tgt := 59) dX12_closesSums_34 (by decide) rfl (fun c62 => ?_) (fun c62 => ?_)
              · skip
                have nf63 : ¬ op = 3 := fun q => c62 (congrArg nI q)
                exact x_vret C hr hlk dX12_closesSums_59 ⟨hWl0, kq0, ⟨cx, wx, fx, Wd, [], iv0_3, iv0_4, iv0_5, by omega, ⟨v14, v15, v16, v17, v18, v19, v20, n21, n22, ⟨by omega, by omega, by omega, by omega, by omega, by omega, by omega⟩, ⟨by omega, by omega⟩, zb25, k26⟩, iv0_1, iv0_6, iv0_7.1, iv0_8, iv0_9, Or.inl rfl⟩⟩
              · skip
                have nf64 : op = 3 := (nI_eq (by omega) (by omega)).mp c62
                exact False.elim (by omega)
          · skip
            have nf65 := nI_nlt' (a := op) (b := 4) c47 (by omega) (by omega)
            refine x_aload_n C dX12_closesSums_8 rfl 0 rfl rfl ?_
            refine x_vi C (As := []) (rest := []) (m_waitTop E l a cd hG wl0 hWl0 tp pl le cx wx sm lm nu ⟨v14, v15, v16, v17, v18, v19, v20, n21, n22, ⟨by omega, by omega, by omega, by omega, by omega, by omega, by omega⟩, ⟨by omega, by omega⟩, zb25, k26⟩ fw iv0_2 ([] ++ W0) iv0_5) mf_X12_waitTop w_1363 0 k26 rfl rfl rfl (Nat.le_of_ble_eq_true rfl) ⟨(Nat.le_of_ble_eq_true rfl), (Nat.le_of_ble_eq_true rfl)⟩ ⟨(Nat.le_of_ble_eq_true rfl), (Nat.le_of_ble_eq_true rfl)⟩ dX12_closesSums_9 rfl (fun r67 w68 h66 => ?_)
            obtain ⟨hW69, x70⟩ := h66
            refine x_ws hW69 ?_
            refine x_top (x70.trans (show wtop ([] ++ W0) = (nI op) from q)) ?_
            refine x_bipush C (v := 6) dX12_closesSums_12 (by decide) rfl ?_
            refine x_icmp_le C (tgt := 37) dX12_closesSums_14 (by decide) rfl (fun c71 => ?_) (fun c71 => ?_)
            · skip
              have nf72 := nI_le' (a := op) (b := 6) c71 (by omega) (by omega)
              exact False.elim (by omega)
            · skip
              have nf73 := nI_nle' (a := op) (b := 6) c71 (by omega) (by omega)
              refine x_iload_n C dX12_closesSums_17 rfl 1 rfl rfl ?_
              refine x_if_eq C (tgt := 59) dX12_closesSums_18 (by decide) rfl (fun h => absurd h (by decide)) (fun _ => ?_)
              refine x_aload_n C dX12_closesSums_21 rfl 0 rfl rfl ?_
              refine x_vi C (As := []) (rest := []) (m_waitTop E l a cd hG wl0 hWl0 tp pl le cx wx sm lm nu ⟨v14, v15, v16, v17, v18, v19, v20, n21, n22, ⟨by omega, by omega, by omega, by omega, by omega, by omega, by omega⟩, ⟨by omega, by omega⟩, zb25, k26⟩ fw iv0_2 ([] ++ W0) iv0_5) mf_X12_waitTop w_1363 0 k26 rfl rfl rfl (Nat.le_of_ble_eq_true rfl) ⟨(Nat.le_of_ble_eq_true rfl), (Nat.le_of_ble_eq_true rfl)⟩ ⟨(Nat.le_of_ble_eq_true rfl), (Nat.le_of_ble_eq_true rfl)⟩ dX12_closesSums_22 rfl (fun r75 w76 h74 => ?_)
              obtain ⟨hW77, x78⟩ := h74
              refine x_ws hW77 ?_
              refine x_top (x78.trans (show wtop ([] ++ W0) = (nI op) from q)) ?_
              refine x_iconst C (v := 2) dX12_closesSums_25 (by decide) rfl ?_
              refine x_icmp_eq C (tgt := 37) dX12_closesSums_26 (by decide) rfl (fun c79 => ?_) (fun c79 => ?_)
              · skip
                have nf80 : op = 2 := (nI_eq (by omega) (by omega)).mp c79
                exact False.elim (by omega)
              · skip
                have nf81 : ¬ op = 2 := fun q => c79 (congrArg nI q)
                refine x_aload_n C dX12_closesSums_29 rfl 0 rfl rfl ?_
                refine x_vi C (As := []) (rest := []) (m_waitTop E l a cd hG wl0 hWl0 tp pl le cx wx sm lm nu ⟨v14, v15, v16, v17, v18, v19, v20, n21, n22, ⟨by omega, by omega, by omega, by omega, by omega, by omega, by omega⟩, ⟨by omega, by omega⟩, zb25, k26⟩ fw iv0_2 ([] ++ W0) iv0_5) mf_X12_waitTop w_1363 0 k26 rfl rfl rfl (Nat.le_of_ble_eq_true rfl) ⟨(Nat.le_of_ble_eq_true rfl), (Nat.le_of_ble_eq_true rfl)⟩ ⟨(Nat.le_of_ble_eq_true rfl), (Nat.le_of_ble_eq_true rfl)⟩ dX12_closesSums_30 rfl (fun r83 w84 h82 => ?_)
                obtain ⟨hW85, x86⟩ := h82
                refine x_ws hW85 ?_
                refine x_top (x86.trans (show wtop ([] ++ W0) = (nI op) from q)) ?_
                refine x_iconst C (v := 3) dX12_closesSums_33 (by decide) rfl ?_
                refine x_icmp_ne C (tgt := 59) dX12_closesSums_34 (by decide) rfl (fun c87 => ?_) (fun c87 => ?_)
                · skip
                  have nf88 : ¬ op = 3 := fun q => c87 (congrArg nI q)
                  exact x_vret C hr hlk dX12_closesSums_59 ⟨hWl0, kq0, ⟨cx, wx, fx, Wd, [], iv0_3, iv0_4, iv0_5, by omega, ⟨v14, v15, v16, v17, v18, v19, v20, n21, n22, ⟨by omega, by omega, by omega, by omega, by omega, by omega, by omega⟩, ⟨by omega, by omega⟩, zb25, k26⟩, iv0_1, iv0_6, iv0_7.1, iv0_8, iv0_9, Or.inl rfl⟩⟩
                · skip
                  have nf89 : op = 3 := (nI_eq (by omega) (by omega)).mp c87
                  exact False.elim (by omega)
      · have hs1 := (sOps_hd iv0_9).1
        have hw1 := iv0_5.1
        have hl1 : (e :: W1).length = W1.length + 1 := rfl
        refine x_vi C (As := []) (rest := []) (m_waitTop E l a cd hG wl0 hWl0 tp pl le cx wx sm lm nu ⟨v14, v15, v16, v17, v18, v19, v20, n21, n22, ⟨by omega, by omega, by omega, by omega, by omega, by omega, by omega⟩, ⟨by omega, by omega⟩, zb25, k26⟩ fw iv0_2 (e :: W1 ++ W0) iv0_5) mf_X12_waitTop w_1363 0 k26 rfl rfl rfl (Nat.le_of_ble_eq_true rfl) ⟨(Nat.le_of_ble_eq_true rfl), (Nat.le_of_ble_eq_true rfl)⟩ ⟨(Nat.le_of_ble_eq_true rfl), (Nat.le_of_ble_eq_true rfl)⟩ dX12_closesSums_1 rfl (fun r91 w92 h90 => ?_)
        obtain ⟨hW93, x94⟩ := h90
        refine x_ws hW93 ?_
        refine x_top (x94.trans (show wtop (e :: W1 ++ W0) = (nI (e.1)) from rfl)) ?_
        refine x_iconst C (v := 4) dX12_closesSums_4 (by decide) rfl ?_
        refine x_icmp_lt C (tgt := 17) dX12_closesSums_5 (by decide) rfl (fun c95 => ?_) (fun c95 => ?_)
        · skip
          have nf96 := nI_lt' (a := (e.1)) (b := 4) c95 (by omega) (by omega)
          refine x_iload_n C dX12_closesSums_17 rfl 1 rfl rfl ?_
          refine x_if_eq C (tgt := 59) dX12_closesSums_18 (by decide) rfl (fun h => absurd h (by decide)) (fun _ => ?_)
          refine x_aload_n C dX12_closesSums_21 rfl 0 rfl rfl ?_
          refine x_vi C (As := []) (rest := []) (m_waitTop E l a cd hG wl0 hWl0 tp pl le cx wx sm lm nu ⟨v14, v15, v16, v17, v18, v19, v20, n21, n22, ⟨by omega, by omega, by omega, by omega, by omega, by omega, by omega⟩, ⟨by omega, by omega⟩, zb25, k26⟩ fw iv0_2 (e :: W1 ++ W0) iv0_5) mf_X12_waitTop w_1363 0 k26 rfl rfl rfl (Nat.le_of_ble_eq_true rfl) ⟨(Nat.le_of_ble_eq_true rfl), (Nat.le_of_ble_eq_true rfl)⟩ ⟨(Nat.le_of_ble_eq_true rfl), (Nat.le_of_ble_eq_true rfl)⟩ dX12_closesSums_22 rfl (fun r98 w99 h97 => ?_)
          obtain ⟨hW100, x101⟩ := h97
          refine x_ws hW100 ?_
          refine x_top (x101.trans (show wtop (e :: W1 ++ W0) = (nI (e.1)) from rfl)) ?_
          refine x_iconst C (v := 2) dX12_closesSums_25 (by decide) rfl ?_
          refine x_icmp_eq C (tgt := 37) dX12_closesSums_26 (by decide) rfl (fun c102 => ?_) (fun c102 => ?_)
          · skip
            have nf103 : e.1 = 2 := (nI_eq (by omega) (by omega)).mp c102
            have h26 : 2 ≤ e.1 ∧ e.1 ≤ 6 := by omega
            have hpd : pend (e :: W1) = 1 + pend W1 := by show pd1 e.1 + pend W1 = _; rw [pd1_1 h26]
            have hwg : wgt (e :: W1 ++ W0) = 1 + wgt (W1 ++ W0) := by show wg1 e.1 + wgt (W1 ++ W0) = _; rw [wg1_1 (Or.inl h26)]
            have hpl2 := pend_len (W := W1)
            have hlen := len_app iv0_5
            have hcx := CI_le iv0_6
            refine x_aload_n C dX12_closesSums_37 rfl 0 rfl rfl ?_
            refine x_aload_n C dX12_closesSums_38 rfl 0 rfl rfl ?_
            refine x_vi C (As := []) (rest := [.ref (a 0)]) (m_waitTop E l a cd hG wl0 hWl0 tp pl le cx wx sm lm nu ⟨v14, v15, v16, v17, v18, v19, v20, n21, n22, ⟨by omega, by omega, by omega, by omega, by omega, by omega, by omega⟩, ⟨by omega, by omega⟩, zb25, k26⟩ fw iv0_2 (e :: W1 ++ W0) iv0_5) mf_X12_waitTop w_1363 0 k26 rfl rfl rfl (Nat.le_of_ble_eq_true rfl) ⟨(Nat.le_of_ble_eq_true rfl), (Nat.le_of_ble_eq_true rfl)⟩ ⟨(Nat.le_of_ble_eq_true rfl), (Nat.le_of_ble_eq_true rfl)⟩ dX12_closesSums_39 rfl (fun r105 w106 h104 => ?_)
            obtain ⟨hW107, x108⟩ := h104
            refine x_ws hW107 ?_
            refine x_top (x108.trans (show wtop (e :: W1 ++ W0) = (nI (e.1)) from rfl)) ?_
            refine x_iconst C (v := 0) dX12_closesSums_42 (by decide) rfl ?_
            refine x_vv C (As := [.int (nI (e.1)), .int 0]) (rest := []) (m_notes E l a cd hG wl0 hWl0 (e.1) 0 (by omega) (by omega) tp pl le cx wx sm lm nu ⟨v14, v15, v16, v17, v18, v19, v20, n21, n22, ⟨by omega, by omega, by omega, by omega, by omega, by omega, by omega⟩, ⟨by omega, by omega⟩, zb25, k26⟩ fx iv0_1 (by omega)) mf_X12_notes w_1349 0 k26 rfl rfl rfl (Nat.le_of_ble_eq_true rfl) ⟨(Nat.le_of_ble_eq_true rfl), (Nat.le_of_ble_eq_true rfl)⟩ ⟨(Nat.le_of_ble_eq_true rfl), (Nat.le_of_ble_eq_true rfl)⟩ dX12_closesSums_43 rfl (fun w111 h109 => ?_)
            obtain ⟨hW112, kq113, x114⟩ := h109
            have k115 : w111[6]? = some (iA E (a 6) 260 fw) := keeps_at kq113 iv0_2 (by first | decide | omega | (dsimp only; omega))
            have kp116 := keeps_tr kq0 kq113 (fun q hq => by first | omega | (dsimp only at *; omega))
            obtain ⟨mo117, k118⟩ := x114
            obtain ⟨v119, v120, v121, v122, v123, v124, v125, n126, n127, bo128, bo129, zb130, k131⟩ := mo117
            refine x_aload_n C dX12_closesSums_46 rfl 0 rfl rfl ?_
            refine x_aload_n C dX12_closesSums_47 rfl 0 rfl rfl ?_
            refine x_get C (ci := 11) (k := 11) 0 k131 rfl in_X12 (by decide) w_1129 rfl dX12_closesSums_48 rfl ?_
            refine x_iconst C (v := 1) dX12_closesSums_51 (by decide) rfl ?_
            refine x_isub C (v := (nI (wx - 1))) dX12_closesSums_52 (pk_sub (a := wx) (b := 1) (by omega)) rfl ?_
            obtain ⟨w132, hw133⟩ : ∃ w : va_W, w = List.set w111 0 (ob (a 0) 11 [.ref (a 1), .ref (a 2), .ref (a 3), .ref (a 4), .int (nI tp), .int (nI pl), .int (nI le), .int v119, .int nu, .int v120, .int (nI (cx + 1)), .int (nI (wx - 1)), .int (nI sm), .int (nI (cd.2.2.2.2.2)), .ref (a 5), .ref (a 6), .ref (a 7), .ref (a 8), .ref (a 9), .ref (a 10), .ref (a 11), .ref (a 12), .ref (a 13), .ref (a 14), .ref (a 15), .ref (a 16), .ref (a 17), .int (nI lm), .ref (a 18), .ref (a 19), .ref (a 20), .ref (a 21), .int v121, .int v122, .int v123, .int v124, .int (nI n126), .int (nI n127), .ref (a 22), .ref (a 23), .ref (a 24), .ref (a 25), .ref (a 26), .ref (a 27), .ref (a 28), .ref (a 29), .ref (a 30), .int v125]) := ⟨_, rfl⟩
            refine x_put C (ci := 11) (k := 11) (ty := .int) 0 k131 rfl in_X12 tyX12 tyX12_ok nmX12 (by decide) w_1129 rfl rfl rfl rfl (Nat.le_of_ble_eq_true rfl) hw133.symm dX12_closesSums_53 rfl ?_
            have hW134 : WX (okM E a cd) w132 := by rw [hw133]; exact hW112.set (k := 0) rfl ⟨tp, pl, le, v119, nu, v120, (cx + 1), (wx - 1), sm, lm, v121, v122, v123, v124, n126, n127, v125, by omega, by omega, by omega, by omega, by omega, by omega, by omega, by omega, by omega, zb130, rfl⟩
            have k135 : w132[6]? = some (iA E (a 6) 260 fw) := by rw [hw133]; exact set_ne k115 (by decide)
            have k136 : w132[0]? = some (ob (a 0) 11 [.ref (a 1), .ref (a 2), .ref (a 3), .ref (a 4), .int (nI tp), .int (nI pl), .int (nI le), .int v119, .int nu, .int v120, .int (nI (cx + 1)), .int (nI (wx - 1)), .int (nI sm), .int (nI (cd.2.2.2.2.2)), .ref (a 5), .ref (a 6), .ref (a 7), .ref (a 8), .ref (a 9), .ref (a 10), .ref (a 11), .ref (a 12), .ref (a 13), .ref (a 14), .ref (a 15), .ref (a 16), .ref (a 17), .int (nI lm), .ref (a 18), .ref (a 19), .ref (a 20), .ref (a 21), .int v121, .int v122, .int v123, .int v124, .int (nI n126), .int (nI n127), .ref (a 22), .ref (a 23), .ref (a 24), .ref (a 25), .ref (a 26), .ref (a 27), .ref (a 28), .ref (a 29), .ref (a 30), .int v125]) := by rw [hw133]; exact set_eq k131
            have k137 : w132[5]? = some (iA E (a 5) 260 (upd fx cx (nI (1048576 * (e.1) + 0)))) := by rw [hw133]; exact set_ne k118 (by decide)
            have kp138 := keeps_set kp116 hw133 (by first | exact rfl | decide | omega | (dsimp only; omega))
            refine x_goto C (tgt := 0) dX12_closesSums_56 (by decide) ?_
            refine x_lv (lv1 := [(0, .ref (a 0)), (1, .int 1)]) [0, 1] rfl ?_
            exact ih0 (cx + 1) (wx - 1) ((upd fx cx (nI (1048576 * (e.1) + 0)))) (Wd ++ [e]) W1 w132 hW134 (by omega) ⟨v119, v120, v121, v122, v123, v124, v125, n126, n127, ⟨by omega, by omega, by omega, by omega, by omega, by omega, by omega⟩, ⟨by omega, by omega⟩, zb130, k136⟩ k137 k135 (iv0_3.trans app_one) (d6_app iv0_4 (by omega)) iv0_5.2.2.2.2 (CI_pop (e := e) (CI_note (op := e.1) (v := 0) (h' := h + 1 + pend W1) iv0_6 (by omega) (by omega) (by omega) (Or.inr (Or.inr (Or.inr ⟨by omega, by omega, by omega, by omega⟩)))) (nJ ⟨by omega, by omega⟩)) (by omega) (ag_upd iv0_8 (by omega)) (sOps_hd iv0_9).2 kp138
          · skip
            have nf139 : ¬ e.1 = 2 := fun q => c102 (congrArg nI q)
            refine x_aload_n C dX12_closesSums_29 rfl 0 rfl rfl ?_
            refine x_vi C (As := []) (rest := []) (m_waitTop E l a cd hG wl0 hWl0 tp pl le cx wx sm lm nu ⟨v14, v15, v16, v17, v18, v19, v20, n21, n22, ⟨by omega, by omega, by omega, by omega, by omega, by omega, by omega⟩, ⟨by omega, by omega⟩, zb25, k26⟩ fw iv0_2 (e :: W1 ++ W0) iv0_5) mf_X12_waitTop w_1363 0 k26 rfl rfl rfl (Nat.le_of_ble_eq_true rfl) ⟨(Nat.le_of_ble_eq_true rfl), (Nat.le_of_ble_eq_true rfl)⟩ ⟨(Nat.le_of_ble_eq_true rfl), (Nat.le_of_ble_eq_true rfl)⟩ dX12_closesSums_30 rfl (fun r141 w142 h140 => ?_)
            obtain ⟨hW143, x144⟩ := h140
            refine x_ws hW143 ?_
            refine x_top (x144.trans (show wtop (e :: W1 ++ W0) = (nI (e.1)) from rfl)) ?_
            refine x_iconst C (v := 3) dX12_closesSums_33 (by decide) rfl ?_
            refine x_icmp_ne C (tgt := 59) dX12_closesSums_34 (by decide) rfl (fun c145 => ?_) (fun c145 => ?_)
            · skip
              have nf146 : ¬ e.1 = 3 := fun q => c145 (congrArg nI q)
              exact x_vret C hr hlk dX12_closesSums_59 ⟨hWl0, kq0, ⟨cx, wx, fx, Wd, (e :: W1), iv0_3, iv0_4, iv0_5, by omega, ⟨v14, v15, v16, v17, v18, v19, v20, n21, n22, ⟨by omega, by omega, by omega, by omega, by omega, by omega, by omega⟩, ⟨by omega, by omega⟩, zb25, k26⟩, iv0_1, iv0_6, iv0_7.1, iv0_8, iv0_9, Or.inr ⟨e, W1, rfl, by omega⟩⟩⟩
            · skip
              have nf147 : e.1 = 3 := (nI_eq (by omega) (by omega)).mp c145
              have h26 : 2 ≤ e.1 ∧ e.1 ≤ 6 := by omega
              have hpd : pend (e :: W1) = 1 + pend W1 := by show pd1 e.1 + pend W1 = _; rw [pd1_1 h26]
              have hwg : wgt (e :: W1 ++ W0) = 1 + wgt (W1 ++ W0) := by show wg1 e.1 + wgt (W1 ++ W0) = _; rw [wg1_1 (Or.inl h26)]
              have hpl2 := pend_len (W := W1)
              have hlen := len_app iv0_5
              have hcx := CI_le iv0_6
              refine x_aload_n C dX12_closesSums_37 rfl 0 rfl rfl ?_
              refine x_aload_n C dX12_closesSums_38 rfl 0 rfl rfl ?_
              refine x_vi C (As := []) (rest := [.ref (a 0)]) (m_waitTop E l a cd hG wl0 hWl0 tp pl le cx wx sm lm nu ⟨v14, v15, v16, v17, v18, v19, v20, n21, n22, ⟨by omega, by omega, by omega, by omega, by omega, by omega, by omega⟩, ⟨by omega, by omega⟩, zb25, k26⟩ fw iv0_2 (e :: W1 ++ W0) iv0_5) mf_X12_waitTop w_1363 0 k26 rfl rfl rfl (Nat.le_of_ble_eq_true rfl) ⟨(Nat.le_of_ble_eq_true rfl), (Nat.le_of_ble_eq_true rfl)⟩ ⟨(Nat.le_of_ble_eq_true rfl), (Nat.le_of_ble_eq_true rfl)⟩ dX12_closesSums_39 rfl (fun r149 w150 h148 => ?_)
              obtain ⟨hW151, x152⟩ := h148
              refine x_ws hW151 ?_
              refine x_top (x152.trans (show wtop (e :: W1 ++ W0) = (nI (e.1)) from rfl)) ?_
              refine x_iconst C (v := 0) dX12_closesSums_42 (by decide) rfl ?_
              refine x_vv C (As := [.int (nI (e.1)), .int 0]) (rest := []) (m_notes E l a cd hG wl0 hWl0 (e.1) 0 (by omega) (by omega) tp pl le cx wx sm lm nu ⟨v14, v15, v16, v17, v18, v19, v20, n21, n22, ⟨by omega, by omega, by omega, by omega, by omega, by omega, by omega⟩, ⟨by omega, by omega⟩, zb25, k26⟩ fx iv0_1 (by omega)) mf_X12_notes w_1349 0 k26 rfl rfl rfl (Nat.le_of_ble_eq_true rfl) ⟨(Nat.le_of_ble_eq_true rfl), (Nat.le_of_ble_eq_true rfl)⟩ ⟨(Nat.le_of_ble_eq_true rfl), (Nat.le_of_ble_eq_true rfl)⟩ dX12_closesSums_43 rfl (fun w155 h153 => ?_)
              obtain ⟨hW156, kq157, x158⟩ := h153
              have k159 : w155[6]? = some (iA E (a 6) 260 fw) := keeps_at kq157 iv0_2 (by first | decide | omega | (dsimp only; omega))
              have kp160 := keeps_tr kq0 kq157 (fun q hq => by first | omega | (dsimp only at *; omega))
              obtain ⟨mo161, k162⟩ := x158
              obtain ⟨v163, v164, v165, v166, v167, v168, v169, n170, n171, bo172, bo173, zb174, k175⟩ := mo161
              refine x_aload_n C dX12_closesSums_46 rfl 0 rfl rfl ?_
              refine x_aload_n C dX12_closesSums_47 rfl 0 rfl rfl ?_
              refine x_get C (ci := 11) (k := 11) 0 k175 rfl in_X12 (by decide) w_1129 rfl dX12_closesSums_48 rfl ?_
              refine x_iconst C (v := 1) dX12_closesSums_51 (by decide) rfl ?_
              refine x_isub C (v := (nI (wx - 1))) dX12_closesSums_52 (pk_sub (a := wx) (b := 1) (by omega)) rfl ?_
              obtain ⟨w176, hw177⟩ : ∃ w : va_W, w = List.set w155 0 (ob (a 0) 11 [.ref (a 1), .ref (a 2), .ref (a 3), .ref (a 4), .int (nI tp), .int (nI pl), .int (nI le), .int v163, .int nu, .int v164, .int (nI (cx + 1)), .int (nI (wx - 1)), .int (nI sm), .int (nI (cd.2.2.2.2.2)), .ref (a 5), .ref (a 6), .ref (a 7), .ref (a 8), .ref (a 9), .ref (a 10), .ref (a 11), .ref (a 12), .ref (a 13), .ref (a 14), .ref (a 15), .ref (a 16), .ref (a 17), .int (nI lm), .ref (a 18), .ref (a 19), .ref (a 20), .ref (a 21), .int v165, .int v166, .int v167, .int v168, .int (nI n170), .int (nI n171), .ref (a 22), .ref (a 23), .ref (a 24), .ref (a 25), .ref (a 26), .ref (a 27), .ref (a 28), .ref (a 29), .ref (a 30), .int v169]) := ⟨_, rfl⟩
              refine x_put C (ci := 11) (k := 11) (ty := .int) 0 k175 rfl in_X12 tyX12 tyX12_ok nmX12 (by decide) w_1129 rfl rfl rfl rfl (Nat.le_of_ble_eq_true rfl) hw177.symm dX12_closesSums_53 rfl ?_
              have hW178 : WX (okM E a cd) w176 := by rw [hw177]; exact hW156.set (k := 0) rfl ⟨tp, pl, le, v163, nu, v164, (cx + 1), (wx - 1), sm, lm, v165, v166, v167, v168, n170, n171, v169, by omega, by omega, by omega, by omega, by omega, by omega, by omega, by omega, by omega, zb174, rfl⟩
              have k179 : w176[6]? = some (iA E (a 6) 260 fw) := by rw [hw177]; exact set_ne k159 (by decide)
              have k180 : w176[0]? = some (ob (a 0) 11 [.ref (a 1), .ref (a 2), .ref (a 3), .ref (a 4), .int (nI tp), .int (nI pl), .int (nI le), .int v163, .int nu, .int v164, .int (nI (cx + 1)), .int (nI (wx - 1)), .int (nI sm), .int (nI (cd.2.2.2.2.2)), .ref (a 5), .ref (a 6), .ref (a 7), .ref (a 8), .ref (a 9), .ref (a 10), .ref (a 11), .ref (a 12), .ref (a 13), .ref (a 14), .ref (a 15), .ref (a 16), .ref (a 17), .int (nI lm), .ref (a 18), .ref (a 19), .ref (a 20), .ref (a 21), .int v165, .int v166, .int v167, .int v168, .int (nI n170), .int (nI n171), .ref (a 22), .ref (a 23), .ref (a 24), .ref (a 25), .ref (a 26), .ref (a 27), .ref (a 28), .ref (a 29), .ref (a 30), .int v169]) := by rw [hw177]; exact set_eq k175
              have k181 : w176[5]? = some (iA E (a 5) 260 (upd fx cx (nI (1048576 * (e.1) + 0)))) := by rw [hw177]; exact set_ne k162 (by decide)
              have kp182 := keeps_set kp160 hw177 (by first | exact rfl | decide | omega | (dsimp only; omega))
              refine x_goto C (tgt := 0) dX12_closesSums_56 (by decide) ?_
              refine x_lv (lv1 := [(0, .ref (a 0)), (1, .int 1)]) [0, 1] rfl ?_
              exact ih0 (cx + 1) (wx - 1) ((upd fx cx (nI (1048576 * (e.1) + 0)))) (Wd ++ [e]) W1 w176 hW178 (by omega) ⟨v163, v164, v165, v166, v167, v168, v169, n170, n171, ⟨by omega, by omega, by omega, by omega, by omega, by omega, by omega⟩, ⟨by omega, by omega⟩, zb174, k180⟩ k181 k179 (iv0_3.trans app_one) (d6_app iv0_4 (by omega)) iv0_5.2.2.2.2 (CI_pop (e := e) (CI_note (op := e.1) (v := 0) (h' := h + 1 + pend W1) iv0_6 (by omega) (by omega) (by omega) (Or.inr (Or.inr (Or.inr ⟨by omega, by omega, by omega, by omega⟩)))) (nJ ⟨by omega, by omega⟩)) (by omega) (ag_upd iv0_8 (by omega)) (sOps_hd iv0_9).2 kp182
        · skip
          have nf183 := nI_nlt' (a := (e.1)) (b := 4) c95 (by omega) (by omega)
          refine x_aload_n C dX12_closesSums_8 rfl 0 rfl rfl ?_
          refine x_vi C (As := []) (rest := []) (m_waitTop E l a cd hG wl0 hWl0 tp pl le cx wx sm lm nu ⟨v14, v15, v16, v17, v18, v19, v20, n21, n22, ⟨by omega, by omega, by omega, by omega, by omega, by omega, by omega⟩, ⟨by omega, by omega⟩, zb25, k26⟩ fw iv0_2 (e :: W1 ++ W0) iv0_5) mf_X12_waitTop w_1363 0 k26 rfl rfl rfl (Nat.le_of_ble_eq_true rfl) ⟨(Nat.le_of_ble_eq_true rfl), (Nat.le_of_ble_eq_true rfl)⟩ ⟨(Nat.le_of_ble_eq_true rfl), (Nat.le_of_ble_eq_true rfl)⟩ dX12_closesSums_9 rfl (fun r185 w186 h184 => ?_)
          obtain ⟨hW187, x188⟩ := h184
          refine x_ws hW187 ?_
          refine x_top (x188.trans (show wtop (e :: W1 ++ W0) = (nI (e.1)) from rfl)) ?_
          refine x_bipush C (v := 6) dX12_closesSums_12 (by decide) rfl ?_
          refine x_icmp_le C (tgt := 37) dX12_closesSums_14 (by decide) rfl (fun c189 => ?_) (fun c189 => ?_)
          · skip
            have nf190 := nI_le' (a := (e.1)) (b := 6) c189 (by omega) (by omega)
            have h26 : 2 ≤ e.1 ∧ e.1 ≤ 6 := by omega
            have hpd : pend (e :: W1) = 1 + pend W1 := by show pd1 e.1 + pend W1 = _; rw [pd1_1 h26]
            have hwg : wgt (e :: W1 ++ W0) = 1 + wgt (W1 ++ W0) := by show wg1 e.1 + wgt (W1 ++ W0) = _; rw [wg1_1 (Or.inl h26)]
            have hpl2 := pend_len (W := W1)
            have hlen := len_app iv0_5
            have hcx := CI_le iv0_6
            refine x_aload_n C dX12_closesSums_37 rfl 0 rfl rfl ?_
            refine x_aload_n C dX12_closesSums_38 rfl 0 rfl rfl ?_
            refine x_vi C (As := []) (rest := [.ref (a 0)]) (m_waitTop E l a cd hG wl0 hWl0 tp pl le cx wx sm lm nu ⟨v14, v15, v16, v17, v18, v19, v20, n21, n22, ⟨by omega, by omega, by omega, by omega, by omega, by omega, by omega⟩, ⟨by omega, by omega⟩, zb25, k26⟩ fw iv0_2 (e :: W1 ++ W0) iv0_5) mf_X12_waitTop w_1363 0 k26 rfl rfl rfl (Nat.le_of_ble_eq_true rfl) ⟨(Nat.le_of_ble_eq_true rfl), (Nat.le_of_ble_eq_true rfl)⟩ ⟨(Nat.le_of_ble_eq_true rfl), (Nat.le_of_ble_eq_true rfl)⟩ dX12_closesSums_39 rfl (fun r192 w193 h191 => ?_)
            obtain ⟨hW194, x195⟩ := h191
            refine x_ws hW194 ?_
            refine x_top (x195.trans (show wtop (e :: W1 ++ W0) = (nI (e.1)) from rfl)) ?_
            refine x_iconst C (v := 0) dX12_closesSums_42 (by decide) rfl ?_
            refine x_vv C (As := [.int (nI (e.1)), .int 0]) (rest := []) (m_notes E l a cd hG wl0 hWl0 (e.1) 0 (by omega) (by omega) tp pl le cx wx sm lm nu ⟨v14, v15, v16, v17, v18, v19, v20, n21, n22, ⟨by omega, by omega, by omega, by omega, by omega, by omega, by omega⟩, ⟨by omega, by omega⟩, zb25, k26⟩ fx iv0_1 (by omega)) mf_X12_notes w_1349 0 k26 rfl rfl rfl (Nat.le_of_ble_eq_true rfl) ⟨(Nat.le_of_ble_eq_true rfl), (Nat.le_of_ble_eq_true rfl)⟩ ⟨(Nat.le_of_ble_eq_true rfl), (Nat.le_of_ble_eq_true rfl)⟩ dX12_closesSums_43 rfl (fun w198 h196 => ?_)
            obtain ⟨hW199, kq200, x201⟩ := h196
            have k202 : w198[6]? = some (iA E (a 6) 260 fw) := keeps_at kq200 iv0_2 (by first | decide | omega | (dsimp only; omega))
            have kp203 := keeps_tr kq0 kq200 (fun q hq => by first | omega | (dsimp only at *; omega))
            obtain ⟨mo204, k205⟩ := x201
            obtain ⟨v206, v207, v208, v209, v210, v211, v212, n213, n214, bo215, bo216, zb217, k218⟩ := mo204
            refine x_aload_n C dX12_closesSums_46 rfl 0 rfl rfl ?_
            refine x_aload_n C dX12_closesSums_47 rfl 0 rfl rfl ?_
            refine x_get C (ci := 11) (k := 11) 0 k218 rfl in_X12 (by decide) w_1129 rfl dX12_closesSums_48 rfl ?_
            refine x_iconst C (v := 1) dX12_closesSums_51 (by decide) rfl ?_
            refine x_isub C (v := (nI (wx - 1))) dX12_closesSums_52 (pk_sub (a := wx) (b := 1) (by omega)) rfl ?_
            obtain ⟨w219, hw220⟩ : ∃ w : va_W, w = List.set w198 0 (ob (a 0) 11 [.ref (a 1), .ref (a 2), .ref (a 3), .ref (a 4), .int (nI tp), .int (nI pl), .int (nI le), .int v206, .int nu, .int v207, .int (nI (cx + 1)), .int (nI (wx - 1)), .int (nI sm), .int (nI (cd.2.2.2.2.2)), .ref (a 5), .ref (a 6), .ref (a 7), .ref (a 8), .ref (a 9), .ref (a 10), .ref (a 11), .ref (a 12), .ref (a 13), .ref (a 14), .ref (a 15), .ref (a 16), .ref (a 17), .int (nI lm), .ref (a 18), .ref (a 19), .ref (a 20), .ref (a 21), .int v208, .int v209, .int v210, .int v211, .int (nI n213), .int (nI n214), .ref (a 22), .ref (a 23), .ref (a 24), .ref (a 25), .ref (a 26), .ref (a 27), .ref (a 28), .ref (a 29), .ref (a 30), .int v212]) := ⟨_, rfl⟩
            refine x_put C (ci := 11) (k := 11) (ty := .int) 0 k218 rfl in_X12 tyX12 tyX12_ok nmX12 (by decide) w_1129 rfl rfl rfl rfl (Nat.le_of_ble_eq_true rfl) hw220.symm dX12_closesSums_53 rfl ?_
            have hW221 : WX (okM E a cd) w219 := by rw [hw220]; exact hW199.set (k := 0) rfl ⟨tp, pl, le, v206, nu, v207, (cx + 1), (wx - 1), sm, lm, v208, v209, v210, v211, n213, n214, v212, by omega, by omega, by omega, by omega, by omega, by omega, by omega, by omega, by omega, zb217, rfl⟩
            have k222 : w219[6]? = some (iA E (a 6) 260 fw) := by rw [hw220]; exact set_ne k202 (by decide)
            have k223 : w219[0]? = some (ob (a 0) 11 [.ref (a 1), .ref (a 2), .ref (a 3), .ref (a 4), .int (nI tp), .int (nI pl), .int (nI le), .int v206, .int nu, .int v207, .int (nI (cx + 1)), .int (nI (wx - 1)), .int (nI sm), .int (nI (cd.2.2.2.2.2)), .ref (a 5), .ref (a 6), .ref (a 7), .ref (a 8), .ref (a 9), .ref (a 10), .ref (a 11), .ref (a 12), .ref (a 13), .ref (a 14), .ref (a 15), .ref (a 16), .ref (a 17), .int (nI lm), .ref (a 18), .ref (a 19), .ref (a 20), .ref (a 21), .int v208, .int v209, .int v210, .int v211, .int (nI n213), .int (nI n214), .ref (a 22), .ref (a 23), .ref (a 24), .ref (a 25), .ref (a 26), .ref (a 27), .ref (a 28), .ref (a 29), .ref (a 30), .int v212]) := by rw [hw220]; exact set_eq k218
            have k224 : w219[5]? = some (iA E (a 5) 260 (upd fx cx (nI (1048576 * (e.1) + 0)))) := by rw [hw220]; exact set_ne k205 (by decide)
            have kp225 := keeps_set kp203 hw220 (by first | exact rfl | decide | omega | (dsimp only; omega))
            refine x_goto C (tgt := 0) dX12_closesSums_56 (by decide) ?_
            refine x_lv (lv1 := [(0, .ref (a 0)), (1, .int 1)]) [0, 1] rfl ?_
            exact ih0 (cx + 1) (wx - 1) ((upd fx cx (nI (1048576 * (e.1) + 0)))) (Wd ++ [e]) W1 w219 hW221 (by omega) ⟨v206, v207, v208, v209, v210, v211, v212, n213, n214, ⟨by omega, by omega, by omega, by omega, by omega, by omega, by omega⟩, ⟨by omega, by omega⟩, zb217, k223⟩ k224 k222 (iv0_3.trans app_one) (d6_app iv0_4 (by omega)) iv0_5.2.2.2.2 (CI_pop (e := e) (CI_note (op := e.1) (v := 0) (h' := h + 1 + pend W1) iv0_6 (by omega) (by omega) (by omega) (Or.inr (Or.inr (Or.inr ⟨by omega, by omega, by omega, by omega⟩)))) (nJ ⟨by omega, by omega⟩)) (by omega) (ag_upd iv0_8 (by omega)) (sOps_hd iv0_9).2 kp225
          · skip
            have nf226 := nI_nle' (a := (e.1)) (b := 6) c189 (by omega) (by omega)
            refine x_iload_n C dX12_closesSums_17 rfl 1 rfl rfl ?_
            refine x_if_eq C (tgt := 59) dX12_closesSums_18 (by decide) rfl (fun h => absurd h (by decide)) (fun _ => ?_)
            refine x_aload_n C dX12_closesSums_21 rfl 0 rfl rfl ?_
            refine x_vi C (As := []) (rest := []) (m_waitTop E l a cd hG wl0 hWl0 tp pl le cx wx sm lm nu ⟨v14, v15, v16, v17, v18, v19, v20, n21, n22, ⟨by omega, by omega, by omega, by omega, by omega, by omega, by omega⟩, ⟨by omega, by omega⟩, zb25, k26⟩ fw iv0_2 (e :: W1 ++ W0) iv0_5) mf_X12_waitTop w_1363 0 k26 rfl rfl rfl (Nat.le_of_ble_eq_true rfl) ⟨(Nat.le_of_ble_eq_true rfl), (Nat.le_of_ble_eq_true rfl)⟩ ⟨(Nat.le_of_ble_eq_true rfl), (Nat.le_of_ble_eq_true rfl)⟩ dX12_closesSums_22 rfl (fun r228 w229 h227 => ?_)
            obtain ⟨hW230, x231⟩ := h227
            refine x_ws hW230 ?_
            refine x_top (x231.trans (show wtop (e :: W1 ++ W0) = (nI (e.1)) from rfl)) ?_
            refine x_iconst C (v := 2) dX12_closesSums_25 (by decide) rfl ?_
            refine x_icmp_eq C (tgt := 37) dX12_closesSums_26 (by decide) rfl (fun c232 => ?_) (fun c232 => ?_)
            · skip
              have nf233 : e.1 = 2 := (nI_eq (by omega) (by omega)).mp c232
              have h26 : 2 ≤ e.1 ∧ e.1 ≤ 6 := by omega
              have hpd : pend (e :: W1) = 1 + pend W1 := by show pd1 e.1 + pend W1 = _; rw [pd1_1 h26]
              have hwg : wgt (e :: W1 ++ W0) = 1 + wgt (W1 ++ W0) := by show wg1 e.1 + wgt (W1 ++ W0) = _; rw [wg1_1 (Or.inl h26)]
              have hpl2 := pend_len (W := W1)
              have hlen := len_app iv0_5
              have hcx := CI_le iv0_6
              refine x_aload_n C dX12_closesSums_37 rfl 0 rfl rfl ?_
              refine x_aload_n C dX12_closesSums_38 rfl 0 rfl rfl ?_
              refine x_vi C (As := []) (rest := [.ref (a 0)]) (m_waitTop E l a cd hG wl0 hWl0 tp pl le cx wx sm lm nu ⟨v14, v15, v16, v17, v18, v19, v20, n21, n22, ⟨by omega, by omega, by omega, by omega, by omega, by omega, by omega⟩, ⟨by omega, by omega⟩, zb25, k26⟩ fw iv0_2 (e :: W1 ++ W0) iv0_5) mf_X12_waitTop w_1363 0 k26 rfl rfl rfl (Nat.le_of_ble_eq_true rfl) ⟨(Nat.le_of_ble_eq_true rfl), (Nat.le_of_ble_eq_true rfl)⟩ ⟨(Nat.le_of_ble_eq_true rfl), (Nat.le_of_ble_eq_true rfl)⟩ dX12_closesSums_39 rfl (fun r235 w236 h234 => ?_)
              obtain ⟨hW237, x238⟩ := h234
              refine x_ws hW237 ?_
              refine x_top (x238.trans (show wtop (e :: W1 ++ W0) = (nI (e.1)) from rfl)) ?_
              refine x_iconst C (v := 0) dX12_closesSums_42 (by decide) rfl ?_
              refine x_vv C (As := [.int (nI (e.1)), .int 0]) (rest := []) (m_notes E l a cd hG wl0 hWl0 (e.1) 0 (by omega) (by omega) tp pl le cx wx sm lm nu ⟨v14, v15, v16, v17, v18, v19, v20, n21, n22, ⟨by omega, by omega, by omega, by omega, by omega, by omega, by omega⟩, ⟨by omega, by omega⟩, zb25, k26⟩ fx iv0_1 (by omega)) mf_X12_notes w_1349 0 k26 rfl rfl rfl (Nat.le_of_ble_eq_true rfl) ⟨(Nat.le_of_ble_eq_true rfl), (Nat.le_of_ble_eq_true rfl)⟩ ⟨(Nat.le_of_ble_eq_true rfl), (Nat.le_of_ble_eq_true rfl)⟩ dX12_closesSums_43 rfl (fun w241 h239 => ?_)
              obtain ⟨hW242, kq243, x244⟩ := h239
              have k245 : w241[6]? = some (iA E (a 6) 260 fw) := keeps_at kq243 iv0_2 (by first | decide | omega | (dsimp only; omega))
              have kp246 := keeps_tr kq0 kq243 (fun q hq => by first | omega | (dsimp only at *; omega))
              obtain ⟨mo247, k248⟩ := x244
              obtain ⟨v249, v250, v251, v252, v253, v254, v255, n256, n257, bo258, bo259, zb260, k261⟩ := mo247
              refine x_aload_n C dX12_closesSums_46 rfl 0 rfl rfl ?_
              refine x_aload_n C dX12_closesSums_47 rfl 0 rfl rfl ?_
              refine x_get C (ci := 11) (k := 11) 0 k261 rfl in_X12 (by decide) w_1129 rfl dX12_closesSums_48 rfl ?_
              refine x_iconst C (v := 1) dX12_closesSums_51 (by decide) rfl ?_
              refine x_isub C (v := (nI (wx - 1))) dX12_closesSums_52 (pk_sub (a := wx) (b := 1) (by omega)) rfl ?_
              obtain ⟨w262, hw263⟩ : ∃ w : va_W, w = List.set w241 0 (ob (a 0) 11 [.ref (a 1), .ref (a 2), .ref (a 3), .ref (a 4), .int (nI tp), .int (nI pl), .int (nI le), .int v249, .int nu, .int v250, .int (nI (cx + 1)), .int (nI (wx - 1)), .int (nI sm), .int (nI (cd.2.2.2.2.2)), .ref (a 5), .ref (a 6), .ref (a 7), .ref (a 8), .ref (a 9), .ref (a 10), .ref (a 11), .ref (a 12), .ref (a 13), .ref (a 14), .ref (a 15), .ref (a 16), .ref (a 17), .int (nI lm), .ref (a 18), .ref (a 19), .ref (a 20), .ref (a 21), .int v251, .int v252, .int v253, .int v254, .int (nI n256), .int (nI n257), .ref (a 22), .ref (a 23), .ref (a 24), .ref (a 25), .ref (a 26), .ref (a 27), .ref (a 28), .ref (a 29), .ref (a 30), .int v255]) := ⟨_, rfl⟩
              refine x_put C (ci := 11) (k := 11) (ty := .int) 0 k261 rfl in_X12 tyX12 tyX12_ok nmX12 (by decide) w_1129 rfl rfl rfl rfl (Nat.le_of_ble_eq_true rfl) hw263.symm dX12_closesSums_53 rfl ?_
              have hW264 : WX (okM E a cd) w262 := by rw [hw263]; exact hW242.set (k := 0) rfl ⟨tp, pl, le, v249, nu, v250, (cx + 1), (wx - 1), sm, lm, v251, v252, v253, v254, n256, n257, v255, by omega, by omega, by omega, by omega, by omega, by omega, by omega, by omega, by omega, zb260, rfl⟩
              have k265 : w262[6]? = some (iA E (a 6) 260 fw) := by rw [hw263]; exact set_ne k245 (by decide)
              have k266 : w262[0]? = some (ob (a 0) 11 [.ref (a 1), .ref (a 2), .ref (a 3), .ref (a 4), .int (nI tp), .int (nI pl), .int (nI le), .int v249, .int nu, .int v250, .int (nI (cx + 1)), .int (nI (wx - 1)), .int (nI sm), .int (nI (cd.2.2.2.2.2)), .ref (a 5), .ref (a 6), .ref (a 7), .ref (a 8), .ref (a 9), .ref (a 10), .ref (a 11), .ref (a 12), .ref (a 13), .ref (a 14), .ref (a 15), .ref (a 16), .ref (a 17), .int (nI lm), .ref (a 18), .ref (a 19), .ref (a 20), .ref (a 21), .int v251, .int v252, .int v253, .int v254, .int (nI n256), .int (nI n257), .ref (a 22), .ref (a 23), .ref (a 24), .ref (a 25), .ref (a 26), .ref (a 27), .ref (a 28), .ref (a 29), .ref (a 30), .int v255]) := by rw [hw263]; exact set_eq k261
              have k267 : w262[5]? = some (iA E (a 5) 260 (upd fx cx (nI (1048576 * (e.1) + 0)))) := by rw [hw263]; exact set_ne k248 (by decide)
              have kp268 := keeps_set kp246 hw263 (by first | exact rfl | decide | omega | (dsimp only; omega))
              refine x_goto C (tgt := 0) dX12_closesSums_56 (by decide) ?_
              refine x_lv (lv1 := [(0, .ref (a 0)), (1, .int 1)]) [0, 1] rfl ?_
              exact ih0 (cx + 1) (wx - 1) ((upd fx cx (nI (1048576 * (e.1) + 0)))) (Wd ++ [e]) W1 w262 hW264 (by omega) ⟨v249, v250, v251, v252, v253, v254, v255, n256, n257, ⟨by omega, by omega, by omega, by omega, by omega, by omega, by omega⟩, ⟨by omega, by omega⟩, zb260, k266⟩ k267 k265 (iv0_3.trans app_one) (d6_app iv0_4 (by omega)) iv0_5.2.2.2.2 (CI_pop (e := e) (CI_note (op := e.1) (v := 0) (h' := h + 1 + pend W1) iv0_6 (by omega) (by omega) (by omega) (Or.inr (Or.inr (Or.inr ⟨by omega, by omega, by omega, by omega⟩)))) (nJ ⟨by omega, by omega⟩)) (by omega) (ag_upd iv0_8 (by omega)) (sOps_hd iv0_9).2 kp268
            · skip
              have nf269 : ¬ e.1 = 2 := fun q => c232 (congrArg nI q)
              refine x_aload_n C dX12_closesSums_29 rfl 0 rfl rfl ?_
              refine x_vi C (As := []) (rest := []) (m_waitTop E l a cd hG wl0 hWl0 tp pl le cx wx sm lm nu ⟨v14, v15, v16, v17, v18, v19, v20, n21, n22, ⟨by omega, by omega, by omega, by omega, by omega, by omega, by omega⟩, ⟨by omega, by omega⟩, zb25, k26⟩ fw iv0_2 (e :: W1 ++ W0) iv0_5) mf_X12_waitTop w_1363 0 k26 rfl rfl rfl (Nat.le_of_ble_eq_true rfl) ⟨(Nat.le_of_ble_eq_true rfl), (Nat.le_of_ble_eq_true rfl)⟩ ⟨(Nat.le_of_ble_eq_true rfl), (Nat.le_of_ble_eq_true rfl)⟩ dX12_closesSums_30 rfl (fun r271 w272 h270 => ?_)
              obtain ⟨hW273, x274⟩ := h270
              refine x_ws hW273 ?_
              refine x_top (x274.trans (show wtop (e :: W1 ++ W0) = (nI (e.1)) from rfl)) ?_
              refine x_iconst C (v := 3) dX12_closesSums_33 (by decide) rfl ?_
              refine x_icmp_ne C (tgt := 59) dX12_closesSums_34 (by decide) rfl (fun c275 => ?_) (fun c275 => ?_)
              · skip
                have nf276 : ¬ e.1 = 3 := fun q => c275 (congrArg nI q)
                exact x_vret C hr hlk dX12_closesSums_59 ⟨hWl0, kq0, ⟨cx, wx, fx, Wd, (e :: W1), iv0_3, iv0_4, iv0_5, by omega, ⟨v14, v15, v16, v17, v18, v19, v20, n21, n22, ⟨by omega, by omega, by omega, by omega, by omega, by omega, by omega⟩, ⟨by omega, by omega⟩, zb25, k26⟩, iv0_1, iv0_6, iv0_7.1, iv0_8, iv0_9, Or.inr ⟨e, W1, rfl, by omega⟩⟩⟩
              · skip
                have nf277 : e.1 = 3 := (nI_eq (by omega) (by omega)).mp c275
                have h26 : 2 ≤ e.1 ∧ e.1 ≤ 6 := by omega
                have hpd : pend (e :: W1) = 1 + pend W1 := by show pd1 e.1 + pend W1 = _; rw [pd1_1 h26]
                have hwg : wgt (e :: W1 ++ W0) = 1 + wgt (W1 ++ W0) := by show wg1 e.1 + wgt (W1 ++ W0) = _; rw [wg1_1 (Or.inl h26)]
                have hpl2 := pend_len (W := W1)
                have hlen := len_app iv0_5
                have hcx := CI_le iv0_6
                refine x_aload_n C dX12_closesSums_37 rfl 0 rfl rfl ?_
                refine x_aload_n C dX12_closesSums_38 rfl 0 rfl rfl ?_
                refine x_vi C (As := []) (rest := [.ref (a 0)]) (m_waitTop E l a cd hG wl0 hWl0 tp pl le cx wx sm lm nu ⟨v14, v15, v16, v17, v18, v19, v20, n21, n22, ⟨by omega, by omega, by omega, by omega, by omega, by omega, by omega⟩, ⟨by omega, by omega⟩, zb25, k26⟩ fw iv0_2 (e :: W1 ++ W0) iv0_5) mf_X12_waitTop w_1363 0 k26 rfl rfl rfl (Nat.le_of_ble_eq_true rfl) ⟨(Nat.le_of_ble_eq_true rfl), (Nat.le_of_ble_eq_true rfl)⟩ ⟨(Nat.le_of_ble_eq_true rfl), (Nat.le_of_ble_eq_true rfl)⟩ dX12_closesSums_39 rfl (fun r279 w280 h278 => ?_)
                obtain ⟨hW281, x282⟩ := h278
                refine x_ws hW281 ?_
                refine x_top (x282.trans (show wtop (e :: W1 ++ W0) = (nI (e.1)) from rfl)) ?_
                refine x_iconst C (v := 0) dX12_closesSums_42 (by decide) rfl ?_
                refine x_vv C (As := [.int (nI (e.1)), .int 0]) (rest := []) (m_notes E l a cd hG wl0 hWl0 (e.1) 0 (by omega) (by omega) tp pl le cx wx sm lm nu ⟨v14, v15, v16, v17, v18, v19, v20, n21, n22, ⟨by omega, by omega, by omega, by omega, by omega, by omega, by omega⟩, ⟨by omega, by omega⟩, zb25, k26⟩ fx iv0_1 (by omega)) mf_X12_notes w_1349 0 k26 rfl rfl rfl (Nat.le_of_ble_eq_true rfl) ⟨(Nat.le_of_ble_eq_true rfl), (Nat.le_of_ble_eq_true rfl)⟩ ⟨(Nat.le_of_ble_eq_true rfl), (Nat.le_of_ble_eq_true rfl)⟩ dX12_closesSums_43 rfl (fun w285 h283 => ?_)
                obtain ⟨hW286, kq287, x288⟩ := h283
                have k289 : w285[6]? = some (iA E (a 6) 260 fw) := keeps_at kq287 iv0_2 (by first | decide | omega | (dsimp only; omega))
                have kp290 := keeps_tr kq0 kq287 (fun q hq => by first | omega | (dsimp only at *; omega))
                obtain ⟨mo291, k292⟩ := x288
                obtain ⟨v293, v294, v295, v296, v297, v298, v299, n300, n301, bo302, bo303, zb304, k305⟩ := mo291
                refine x_aload_n C dX12_closesSums_46 rfl 0 rfl rfl ?_
                refine x_aload_n C dX12_closesSums_47 rfl 0 rfl rfl ?_
                refine x_get C (ci := 11) (k := 11) 0 k305 rfl in_X12 (by decide) w_1129 rfl dX12_closesSums_48 rfl ?_
                refine x_iconst C (v := 1) dX12_closesSums_51 (by decide) rfl ?_
                refine x_isub C (v := (nI (wx - 1))) dX12_closesSums_52 (pk_sub (a := wx) (b := 1) (by omega)) rfl ?_
                obtain ⟨w306, hw307⟩ : ∃ w : va_W, w = List.set w285 0 (ob (a 0) 11 [.ref (a 1), .ref (a 2), .ref (a 3), .ref (a 4), .int (nI tp), .int (nI pl), .int (nI le), .int v293, .int nu, .int v294, .int (nI (cx + 1)), .int (nI (wx - 1)), .int (nI sm), .int (nI (cd.2.2.2.2.2)), .ref (a 5), .ref (a 6), .ref (a 7), .ref (a 8), .ref (a 9), .ref (a 10), .ref (a 11), .ref (a 12), .ref (a 13), .ref (a 14), .ref (a 15), .ref (a 16), .ref (a 17), .int (nI lm), .ref (a 18), .ref (a 19), .ref (a 20), .ref (a 21), .int v295, .int v296, .int v297, .int v298, .int (nI n300), .int (nI n301), .ref (a 22), .ref (a 23), .ref (a 24), .ref (a 25), .ref (a 26), .ref (a 27), .ref (a 28), .ref (a 29), .ref (a 30), .int v299]) := ⟨_, rfl⟩
                refine x_put C (ci := 11) (k := 11) (ty := .int) 0 k305 rfl in_X12 tyX12 tyX12_ok nmX12 (by decide) w_1129 rfl rfl rfl rfl (Nat.le_of_ble_eq_true rfl) hw307.symm dX12_closesSums_53 rfl ?_
                have hW308 : WX (okM E a cd) w306 := by rw [hw307]; exact hW286.set (k := 0) rfl ⟨tp, pl, le, v293, nu, v294, (cx + 1), (wx - 1), sm, lm, v295, v296, v297, v298, n300, n301, v299, by omega, by omega, by omega, by omega, by omega, by omega, by omega, by omega, by omega, zb304, rfl⟩
                have k309 : w306[6]? = some (iA E (a 6) 260 fw) := by rw [hw307]; exact set_ne k289 (by decide)
                have k310 : w306[0]? = some (ob (a 0) 11 [.ref (a 1), .ref (a 2), .ref (a 3), .ref (a 4), .int (nI tp), .int (nI pl), .int (nI le), .int v293, .int nu, .int v294, .int (nI (cx + 1)), .int (nI (wx - 1)), .int (nI sm), .int (nI (cd.2.2.2.2.2)), .ref (a 5), .ref (a 6), .ref (a 7), .ref (a 8), .ref (a 9), .ref (a 10), .ref (a 11), .ref (a 12), .ref (a 13), .ref (a 14), .ref (a 15), .ref (a 16), .ref (a 17), .int (nI lm), .ref (a 18), .ref (a 19), .ref (a 20), .ref (a 21), .int v295, .int v296, .int v297, .int v298, .int (nI n300), .int (nI n301), .ref (a 22), .ref (a 23), .ref (a 24), .ref (a 25), .ref (a 26), .ref (a 27), .ref (a 28), .ref (a 29), .ref (a 30), .int v299]) := by rw [hw307]; exact set_eq k305
                have k311 : w306[5]? = some (iA E (a 5) 260 (upd fx cx (nI (1048576 * (e.1) + 0)))) := by rw [hw307]; exact set_ne k292 (by decide)
                have kp312 := keeps_set kp290 hw307 (by first | exact rfl | decide | omega | (dsimp only; omega))
                refine x_goto C (tgt := 0) dX12_closesSums_56 (by decide) ?_
                refine x_lv (lv1 := [(0, .ref (a 0)), (1, .int 1)]) [0, 1] rfl ?_
                exact ih0 (cx + 1) (wx - 1) ((upd fx cx (nI (1048576 * (e.1) + 0)))) (Wd ++ [e]) W1 w306 hW308 (by omega) ⟨v293, v294, v295, v296, v297, v298, v299, n300, n301, ⟨by omega, by omega, by omega, by omega, by omega, by omega, by omega⟩, ⟨by omega, by omega⟩, zb304, k310⟩ k311 k309 (iv0_3.trans app_one) (d6_app iv0_4 (by omega)) iv0_5.2.2.2.2 (CI_pop (e := e) (CI_note (op := e.1) (v := 0) (h' := h + 1 + pend W1) iv0_6 (by omega) (by omega) (by omega) (Or.inr (Or.inr (Or.inr ⟨by omega, by omega, by omega, by omega⟩)))) (nJ ⟨by omega, by omega⟩)) (by omega) (ag_upd iv0_8 (by omega)) (sOps_hd iv0_9).2 kp312
  refine x_lv (lv1 := [(0, .ref (a 0)), (1, .int 1)]) [0, 1] rfl ?_
  exact loop0 _ cm wt fs [] Ws ws hW (Nat.lt_succ_self _) ⟨v1, v2, v3, v4, v5, v6, v7, n8, n9, ⟨by omega, by omega, by omega, by omega, by omega, by omega, by omega⟩, ⟨by omega, by omega⟩, zb12, k13⟩ hfs hfw rfl (fun z hz => absurd hz List.not_mem_nil) hwr hci ⟨rfl, Nat.le_refl _⟩ (fun _ _ => rfl) hso kp0
theorem dX12_hasOpenSum_0 : decode cX12_hasOpenSum 0 = .ok (.iload_n 1, 1) := by decide +kernel
theorem dX12_hasOpenSum_1 : decode cX12_hasOpenSum 1 = .ok (.istore_n 2, 1) := by decide +kernel
theorem dX12_hasOpenSum_2 : decode cX12_hasOpenSum 2 = .ok (.iload_n 2, 1) := by decide +kernel
theorem dX12_hasOpenSum_3 : decode cX12_hasOpenSum 3 = .ok (.aload_n 0, 1) := by decide +kernel
theorem dX12_hasOpenSum_4 : decode cX12_hasOpenSum 4 = .ok (.getfield 161, 3) := by decide +kernel
theorem dX12_hasOpenSum_7 : decode cX12_hasOpenSum 7 = .ok (.if_icmp .ge 25, 3) := by decide +kernel
theorem dX12_hasOpenSum_10 : decode cX12_hasOpenSum 10 = .ok (.aload_n 0, 1) := by decide +kernel
theorem dX12_hasOpenSum_11 : decode cX12_hasOpenSum 11 = .ok (.getfield 26, 3) := by decide +kernel
theorem dX12_hasOpenSum_14 : decode cX12_hasOpenSum 14 = .ok (.iload_n 2, 1) := by decide +kernel
theorem dX12_hasOpenSum_15 : decode cX12_hasOpenSum 15 = .ok (.iaload, 1) := by decide +kernel
theorem dX12_hasOpenSum_16 : decode cX12_hasOpenSum 16 = .ok (.ldc 157, 2) := by decide +kernel
theorem dX12_hasOpenSum_18 : decode cX12_hasOpenSum 18 = .ok (.idiv, 1) := by decide +kernel
theorem dX12_hasOpenSum_19 : decode cX12_hasOpenSum 19 = .ok (.bipush 14, 2) := by decide +kernel
theorem dX12_hasOpenSum_21 : decode cX12_hasOpenSum 21 = .ok (.if_icmp .ne 5, 3) := by decide +kernel
theorem dX12_hasOpenSum_24 : decode cX12_hasOpenSum 24 = .ok (.iconst 1, 1) := by decide +kernel
theorem dX12_hasOpenSum_25 : decode cX12_hasOpenSum 25 = .ok (.ireturn, 1) := by decide +kernel
theorem dX12_hasOpenSum_26 : decode cX12_hasOpenSum 26 = .ok (.iinc 2 1, 3) := by decide +kernel
theorem dX12_hasOpenSum_29 : decode cX12_hasOpenSum 29 = .ok (.goto (-27), 3) := by decide +kernel
theorem dX12_hasOpenSum_32 : decode cX12_hasOpenSum 32 = .ok (.iconst 0, 1) := by decide +kernel
theorem dX12_hasOpenSum_33 : decode cX12_hasOpenSum 33 = .ok (.ireturn, 1) := by decide +kernel
set_option maxRecDepth 20000 in
set_option maxHeartbeats 4000000 in
theorem m_hasOpenSum (E : xE) (l : Launch) (a : Nat → Nat) (cd : Cd) (hG : Good cd) (ws : va_W) (hW : WX (okM E a cd) ws) (b0 : Nat) (tp pl le cm wt sm lm : Nat) (nu : Int32) (h0 : MO a cd ws tp pl le cm wt sm lm nu) (fw : Nat → Int32) (hfw : ws[6]? = some (iA E (a 6) 260 fw)) (Ws W0 : WL) (hwr : wR fw (Ws ++ W0) wt) (hb0 : W0.length = b0) : xI E l yX12_hasOpenSum cX12_hasOpenSum 3 (some .boolean) 0 [.ref (a 0), .int (nI b0)] ws (fun r w => w = ws ∧ zb r ∧ ((¬ r = 0 → ∃ e ∈ Ws, e.1 = 14) ∧ (r = 0 → ∀ e ∈ Ws, ¬ e.1 = 14))) := by
  refine xI_start (lv := [(0, .ref (a 0)), (1, .int (nI b0))]) RX12 (by decide) rfl (Nat.le_of_ble_eq_true rfl) rfl (fun p e s m below meth c A C hr hlk => ?_)
  obtain ⟨v1, v2, v3, v4, v5, v6, v7, n8, n9, bo10, bo11, zb12, k13⟩ := h0
  have hlw := len_app hwr
  refine x_iload_n C dX12_hasOpenSum_0 rfl 1 rfl rfl ?_
  refine x_istore_n C (lv' := [(2, .int (nI b0)), (0, .ref (a 0)), (1, .int (nI b0))]) dX12_hasOpenSum_1 rfl (by decide) rfl rfl ?_
  have loop2 : ∀ (fu2 : Nat) (k : Nat), True → wt - k < fu2 → b0 ≤ k ∧ k ≤ wt → (∀ j, b0 ≤ j → j < k → ¬ fw j / 1048576 = 14) → X E p l e (xRm 0 0 0) s m ([.ref (a 0), .int (nI b0)] : List Value).toArray below meth c A 3 0 0 (MQ below (va_Qi (fun r w => w = ws ∧ zb r ∧ ((¬ r = 0 → ∃ e ∈ Ws, e.1 = 14) ∧ (r = 0 → ∀ e ∈ Ws, ¬ e.1 = 14))) (xB E A) A) ([.ref (a 0), .int (nI b0)] : List Value).toArray s 0 0 A) ws 2 [(0, .ref (a 0)), (1, .int (nI b0)), (2, .int (nI k))] [] := by
    intro fu2
    induction fu2 with
    | zero => intro k _ q; omega
    | succ fu2 ih2 =>
      intro k _ me2 iv2_0 iv2_1
      refine x_iload_n C dX12_hasOpenSum_2 rfl 2 rfl rfl ?_
      refine x_aload_n C dX12_hasOpenSum_3 rfl 0 rfl rfl ?_
      refine x_get C (ci := 11) (k := 11) 0 k13 rfl in_X12 (by decide) w_1129 rfl dX12_hasOpenSum_4 rfl ?_
      refine x_icmp_ge C (tgt := 32) dX12_hasOpenSum_7 (by decide) rfl (fun c14 => ?_) (fun c14 => ?_)
      · skip
        have nf15 := nI_le' (a := wt) (b := k) c14 (by omega) (by omega)
        refine x_iconst C (v := 0) dX12_hasOpenSum_32 (by decide) rfl ?_
        exact x_zret C hr hlk rfl dX12_hasOpenSum_33 ⟨rfl, (Or.inl rfl), ⟨fun q => absurd rfl q, fun _ => os_no hb0 hwr (fun j h1 h2 => iv2_1 j h1 (by omega))⟩⟩
      · skip
        have nf16 := nI_nle' (a := wt) (b := k) c14 (by omega) (by omega)
        refine x_aload_n C dX12_hasOpenSum_10 rfl 0 rfl rfl ?_
        refine x_get C (ci := 11) (k := 15) 0 k13 rfl in_X12 (by decide) w_1133 rfl dX12_hasOpenSum_11 rfl ?_
        refine x_iload_n C dX12_hasOpenSum_14 rfl 2 rfl rfl ?_
        refine x_ialk C (v := (fw k)) k (nI_clamp (by omega)) (nI_pos (by omega)) (by omega) 6 hfw rfl dX12_hasOpenSum_15 rfl ?_
        refine x_ldc C w_1340 dX12_hasOpenSum_16 rfl ?_
        refine x_idiv C (v := ((fw k) / (1048576 : Int32))) dX12_hasOpenSum_18 (by decide) rfl rfl ?_
        refine x_bipush C (v := 14) dX12_hasOpenSum_19 (by decide) rfl ?_
        refine x_icmp_ne C (tgt := 26) dX12_hasOpenSum_21 (by decide) rfl (fun c17 => ?_) (fun c17 => ?_)
        · skip
          refine x_iinc C (v := (nI (k + 1))) (lv' := [(2, .int (nI (k + 1))), (0, .ref (a 0)), (1, .int (nI b0))]) dX12_hasOpenSum_26 2 rfl (nI_add k 1) (by decide) rfl rfl ?_
          refine x_goto C (tgt := 2) dX12_hasOpenSum_29 (by decide) ?_
          refine x_lv (lv1 := [(0, .ref (a 0)), (1, .int (nI b0)), (2, .int (nI (k + 1)))]) [1, 2, 0] rfl ?_
          exact ih2 (k + 1) trivial (by omega) (by omega) (st_no iv2_1 c17)
        · skip
          refine x_iconst C (v := 1) dX12_hasOpenSum_24 (by decide) rfl ?_
          exact x_zret C hr hlk rfl dX12_hasOpenSum_25 ⟨rfl, (Or.inr rfl), ⟨fun _ => os_yes hb0 hwr (by omega) (by omega) c17, fun q => absurd q (by decide)⟩⟩
  refine x_lv (lv1 := [(0, .ref (a 0)), (1, .int (nI b0)), (2, .int (nI b0))]) [1, 2, 0] rfl ?_
  exact loop2 _ b0 trivial (Nat.lt_succ_self _) (by omega) (fun j h1 h2 => absurd h2 (by omega))
theorem dX12_readsSum_0 : decode cX12_readsSum 0 = .ok (.aload_n 0, 1) := by decide +kernel
theorem dX12_readsSum_1 : decode cX12_readsSum 1 = .ok (.getfield 161, 3) := by decide +kernel
theorem dX12_readsSum_4 : decode cX12_readsSum 4 = .ok (.istore_n 1, 1) := by decide +kernel
theorem dX12_readsSum_5 : decode cX12_readsSum 5 = .ok (.aload_n 0, 1) := by decide +kernel
theorem dX12_readsSum_6 : decode cX12_readsSum 6 = .ok (.invokevirtual 180, 3) := by decide +kernel
theorem dX12_readsSum_9 : decode cX12_readsSum 9 = .ok (.ifCond .ne 5, 3) := by decide +kernel
theorem dX12_readsSum_12 : decode cX12_readsSum 12 = .ok (.iconst 0, 1) := by decide +kernel
theorem dX12_readsSum_13 : decode cX12_readsSum 13 = .ok (.ireturn, 1) := by decide +kernel
theorem dX12_readsSum_14 : decode cX12_readsSum 14 = .ok (.aload_n 0, 1) := by decide +kernel
theorem dX12_readsSum_15 : decode cX12_readsSum 15 = .ok (.invokevirtual 137, 3) := by decide +kernel
theorem dX12_readsSum_18 : decode cX12_readsSum 18 = .ok (.invokestatic 183, 3) := by decide +kernel
theorem dX12_readsSum_21 : decode cX12_readsSum 21 = .ok (.istore_n 2, 1) := by decide +kernel
theorem dX12_readsSum_22 : decode cX12_readsSum 22 = .ok (.iload_n 2, 1) := by decide +kernel
theorem dX12_readsSum_23 : decode cX12_readsSum 23 = .ok (.iconst (-1), 1) := by decide +kernel
theorem dX12_readsSum_24 : decode cX12_readsSum 24 = .ok (.if_icmp .eq 59, 3) := by decide +kernel
theorem dX12_readsSum_27 : decode cX12_readsSum 27 = .ok (.aload_n 0, 1) := by decide +kernel
theorem dX12_readsSum_28 : decode cX12_readsSum 28 = .ok (.iload_n 2, 1) := by decide +kernel
theorem dX12_readsSum_29 : decode cX12_readsSum 29 = .ok (.iconst 4, 1) := by decide +kernel
theorem dX12_readsSum_30 : decode cX12_readsSum 30 = .ok (.if_icmp .ge 7, 3) := by decide +kernel
theorem dX12_readsSum_33 : decode cX12_readsSum 33 = .ok (.iconst 1, 1) := by decide +kernel
theorem dX12_readsSum_34 : decode cX12_readsSum 34 = .ok (.goto 4, 3) := by decide +kernel
theorem dX12_readsSum_37 : decode cX12_readsSum 37 = .ok (.iconst 0, 1) := by decide +kernel
theorem dX12_readsSum_38 : decode cX12_readsSum 38 = .ok (.invokevirtual 186, 3) := by decide +kernel
theorem dX12_readsSum_41 : decode cX12_readsSum 41 = .ok (.aload_n 0, 1) := by decide +kernel
theorem dX12_readsSum_42 : decode cX12_readsSum 42 = .ok (.getfield 26, 3) := by decide +kernel
theorem dX12_readsSum_45 : decode cX12_readsSum 45 = .ok (.aload_n 0, 1) := by decide +kernel
theorem dX12_readsSum_46 : decode cX12_readsSum 46 = .ok (.getfield 161, 3) := by decide +kernel
theorem dX12_readsSum_49 : decode cX12_readsSum 49 = .ok (.ldc 157, 2) := by decide +kernel
theorem dX12_readsSum_51 : decode cX12_readsSum 51 = .ok (.iload_n 2, 1) := by decide +kernel
theorem dX12_readsSum_52 : decode cX12_readsSum 52 = .ok (.imul, 1) := by decide +kernel
theorem dX12_readsSum_53 : decode cX12_readsSum 53 = .ok (.iastore, 1) := by decide +kernel
theorem dX12_readsSum_54 : decode cX12_readsSum 54 = .ok (.aload_n 0, 1) := by decide +kernel
theorem dX12_readsSum_55 : decode cX12_readsSum 55 = .ok (.aload_n 0, 1) := by decide +kernel
theorem dX12_readsSum_56 : decode cX12_readsSum 56 = .ok (.getfield 161, 3) := by decide +kernel
theorem dX12_readsSum_59 : decode cX12_readsSum 59 = .ok (.iconst 1, 1) := by decide +kernel
theorem dX12_readsSum_60 : decode cX12_readsSum 60 = .ok (.iadd, 1) := by decide +kernel
theorem dX12_readsSum_61 : decode cX12_readsSum 61 = .ok (.putfield 161, 3) := by decide +kernel
theorem dX12_readsSum_64 : decode cX12_readsSum 64 = .ok (.aload_n 0, 1) := by decide +kernel
theorem dX12_readsSum_65 : decode cX12_readsSum 65 = .ok (.aload_n 0, 1) := by decide +kernel
theorem dX12_readsSum_66 : decode cX12_readsSum 66 = .ok (.getfield 131, 3) := by decide +kernel
theorem dX12_readsSum_69 : decode cX12_readsSum 69 = .ok (.iconst 1, 1) := by decide +kernel
theorem dX12_readsSum_70 : decode cX12_readsSum 70 = .ok (.iadd, 1) := by decide +kernel
theorem dX12_readsSum_71 : decode cX12_readsSum 71 = .ok (.putfield 131, 3) := by decide +kernel
theorem dX12_readsSum_74 : decode cX12_readsSum 74 = .ok (.aload_n 0, 1) := by decide +kernel
theorem dX12_readsSum_75 : decode cX12_readsSum 75 = .ok (.invokevirtual 180, 3) := by decide +kernel
theorem dX12_readsSum_78 : decode cX12_readsSum 78 = .ok (.ifCond .ne 85, 3) := by decide +kernel
theorem dX12_readsSum_81 : decode cX12_readsSum 81 = .ok (.iconst 0, 1) := by decide +kernel
theorem dX12_readsSum_82 : decode cX12_readsSum 82 = .ok (.ireturn, 1) := by decide +kernel
theorem dX12_readsSum_83 : decode cX12_readsSum 83 = .ok (.aload_n 0, 1) := by decide +kernel
theorem dX12_readsSum_84 : decode cX12_readsSum 84 = .ok (.invokevirtual 137, 3) := by decide +kernel
theorem dX12_readsSum_87 : decode cX12_readsSum 87 = .ok (.bipush 93, 2) := by decide +kernel
theorem dX12_readsSum_89 : decode cX12_readsSum 89 = .ok (.if_icmp .ne 49, 3) := by decide +kernel
theorem dX12_readsSum_92 : decode cX12_readsSum 92 = .ok (.aload_n 0, 1) := by decide +kernel
theorem dX12_readsSum_93 : decode cX12_readsSum 93 = .ok (.iload_n 1, 1) := by decide +kernel
theorem dX12_readsSum_94 : decode cX12_readsSum 94 = .ok (.invokevirtual 190, 3) := by decide +kernel
theorem dX12_readsSum_97 : decode cX12_readsSum 97 = .ok (.ifCond .eq 41, 3) := by decide +kernel
theorem dX12_readsSum_100 : decode cX12_readsSum 100 = .ok (.aload_n 0, 1) := by decide +kernel
theorem dX12_readsSum_101 : decode cX12_readsSum 101 = .ok (.iconst 1, 1) := by decide +kernel
theorem dX12_readsSum_102 : decode cX12_readsSum 102 = .ok (.invokevirtual 186, 3) := by decide +kernel
theorem dX12_readsSum_105 : decode cX12_readsSum 105 = .ok (.aload_n 0, 1) := by decide +kernel
theorem dX12_readsSum_106 : decode cX12_readsSum 106 = .ok (.aload_n 0, 1) := by decide +kernel
theorem dX12_readsSum_107 : decode cX12_readsSum 107 = .ok (.getfield 161, 3) := by decide +kernel
theorem dX12_readsSum_110 : decode cX12_readsSum 110 = .ok (.iconst 1, 1) := by decide +kernel
theorem dX12_readsSum_111 : decode cX12_readsSum 111 = .ok (.isub, 1) := by decide +kernel
theorem dX12_readsSum_112 : decode cX12_readsSum 112 = .ok (.putfield 161, 3) := by decide +kernel
theorem dX12_readsSum_115 : decode cX12_readsSum 115 = .ok (.aload_n 0, 1) := by decide +kernel
theorem dX12_readsSum_116 : decode cX12_readsSum 116 = .ok (.aload_n 0, 1) := by decide +kernel
theorem dX12_readsSum_117 : decode cX12_readsSum 117 = .ok (.getfield 158, 3) := by decide +kernel
theorem dX12_readsSum_120 : decode cX12_readsSum 120 = .ok (.iconst 1, 1) := by decide +kernel
theorem dX12_readsSum_121 : decode cX12_readsSum 121 = .ok (.isub, 1) := by decide +kernel
theorem dX12_readsSum_122 : decode cX12_readsSum 122 = .ok (.putfield 158, 3) := by decide +kernel
theorem dX12_readsSum_125 : decode cX12_readsSum 125 = .ok (.aload_n 0, 1) := by decide +kernel
theorem dX12_readsSum_126 : decode cX12_readsSum 126 = .ok (.aload_n 0, 1) := by decide +kernel
theorem dX12_readsSum_127 : decode cX12_readsSum 127 = .ok (.getfield 131, 3) := by decide +kernel
theorem dX12_readsSum_130 : decode cX12_readsSum 130 = .ok (.iconst 1, 1) := by decide +kernel
theorem dX12_readsSum_131 : decode cX12_readsSum 131 = .ok (.iadd, 1) := by decide +kernel
theorem dX12_readsSum_132 : decode cX12_readsSum 132 = .ok (.putfield 131, 3) := by decide +kernel
theorem dX12_readsSum_135 : decode cX12_readsSum 135 = .ok (.goto 28, 3) := by decide +kernel
theorem dX12_readsSum_138 : decode cX12_readsSum 138 = .ok (.aload_n 0, 1) := by decide +kernel
theorem dX12_readsSum_139 : decode cX12_readsSum 139 = .ok (.iload_n 1, 1) := by decide +kernel
theorem dX12_readsSum_140 : decode cX12_readsSum 140 = .ok (.invokevirtual 190, 3) := by decide +kernel
theorem dX12_readsSum_143 : decode cX12_readsSum 143 = .ok (.ifCond .eq 13, 3) := by decide +kernel
theorem dX12_readsSum_146 : decode cX12_readsSum 146 = .ok (.aload_n 0, 1) := by decide +kernel
theorem dX12_readsSum_147 : decode cX12_readsSum 147 = .ok (.iconst 1, 1) := by decide +kernel
theorem dX12_readsSum_148 : decode cX12_readsSum 148 = .ok (.aload_n 0, 1) := by decide +kernel
theorem dX12_readsSum_149 : decode cX12_readsSum 149 = .ok (.getfield 131, 3) := by decide +kernel
theorem dX12_readsSum_152 : decode cX12_readsSum 152 = .ok (.invokevirtual 144, 3) := by decide +kernel
theorem dX12_readsSum_155 : decode cX12_readsSum 155 = .ok (.ireturn, 1) := by decide +kernel
theorem dX12_readsSum_156 : decode cX12_readsSum 156 = .ok (.aload_n 0, 1) := by decide +kernel
theorem dX12_readsSum_157 : decode cX12_readsSum 157 = .ok (.iconst 1, 1) := by decide +kernel
theorem dX12_readsSum_158 : decode cX12_readsSum 158 = .ok (.invokevirtual 186, 3) := by decide +kernel
theorem dX12_readsSum_161 : decode cX12_readsSum 161 = .ok (.iconst 1, 1) := by decide +kernel
theorem dX12_readsSum_162 : decode cX12_readsSum 162 = .ok (.ireturn, 1) := by decide +kernel
theorem dX12_readsSum_163 : decode cX12_readsSum 163 = .ok (.goto (-149), 3) := by decide +kernel
set_option maxRecDepth 20000 in
set_option maxHeartbeats 4000000 in
theorem m_readsSum (E : xE) (l : Launch) (a : Nat → Nat) (cd : Cd) (hG : Good cd) (ws : va_W) (hW : WX (okM E a cd) ws) (tp pl le cm wt sm lm : Nat) (nu : Int32) (h0 : MO a cd ws tp pl le cm wt sm lm nu) (tf : Nat → Int32) (htf : ws[4]? = some (bA E (a 4) 260 tf)) (hpl : pl ≤ le) (fs : Nat → Int32) (hfs : ws[5]? = some (iA E (a 5) 260 fs)) (fw : Nat → Int32) (hfw : ws[6]? = some (iA E (a 6) 260 fw)) (W : WL) (hwr : wR fw W wt) (hno : nOps W) (c0 h : Nat) (hci : CI fs c0 cm h W) (hh : h ≤ 1) (sg : Nat) (hphi : cm + wgt W + sg ≤ pl) (hwp : wt ≤ pl) : xI E l yX12_readsSum cX12_readsSum 3 (some .boolean) 4 [.ref (a 0)] ws (fun r w => WX (okM E a cd) w ∧ keeps ws w (fun q => q = 0 ∨ q = 5 ∨ q = 6) ∧ zb r ∧ ((r = 0 ∧ RF E a cd w tp le sm lm) ∨ (r = 1 ∧ ∃ (pl2 cm2 : Nat) (fs2 fw2 : Nat → Int32), pl < pl2 ∧ pl2 ≤ le ∧ wR fw2 W wt ∧ RS E a cd w tp pl2 le cm2 wt sm lm fs2 fw2 ∧ CI fs2 c0 cm2 (h + 1) W ∧ cm2 + wgt W + sg ≤ pl2 ∧ ∀ k, k < c0 → fs2 k = fs k))) := by
  refine xI_start (lv := [(0, .ref (a 0))]) RX12 (by decide) rfl (Nat.le_of_ble_eq_true rfl) rfl (fun p e s m below meth c A C hr hlk => ?_)
  have kp0 : keeps ws ws (fun q => q = 0 ∨ q = 5 ∨ q = 6) := keeps_rf
  obtain ⟨v1, v2, v3, v4, v5, v6, v7, n8, n9, bo10, bo11, zb12, k13⟩ := h0
  refine x_aload_n C dX12_readsSum_0 rfl 0 rfl rfl ?_
  refine x_get C (ci := 11) (k := 11) 0 k13 rfl in_X12 (by decide) w_1129 rfl dX12_readsSum_1 rfl ?_
  refine x_istore_n C (lv' := [(1, .int (nI wt)), (0, .ref (a 0))]) dX12_readsSum_4 rfl (by decide) rfl rfl ?_
  refine x_aload_n C dX12_readsSum_5 rfl 1 rfl rfl ?_
  refine x_vi C (As := []) (rest := []) (m_readsFactor E l a cd hG ws hW tp pl le cm wt sm lm nu ⟨v1, v2, v3, v4, v5, v6, v7, n8, n9, ⟨by omega, by omega, by omega, by omega, by omega, by omega, by omega⟩, ⟨by omega, by omega⟩, zb12, k13⟩ tf htf (by omega) fs hfs fw hfw W hwr c0 h hci (by omega) sg (by omega) (by omega)) mf_X12_readsFactor w_1332 0 k13 rfl rfl rfl (Nat.le_of_ble_eq_true rfl) ⟨(Nat.le_of_ble_eq_true rfl), (Nat.le_of_ble_eq_true rfl)⟩ ⟨(Nat.le_of_ble_eq_true rfl), (Nat.le_of_ble_eq_true rfl)⟩ dX12_readsSum_6 rfl (fun r15 w16 h14 => ?_)
  obtain ⟨hW17, kq18, zb19, x20⟩ := h14
  have k21 : w16[4]? = some (bA E (a 4) 260 tf) := keeps_at kq18 htf (by first | decide | omega | (dsimp only; omega))
  have kp22 := keeps_tr kp0 kq18 (fun q hq => by first | omega | (dsimp only at *; omega))
  rcases x20 with ⟨e23, rf24⟩ | ⟨e25, pl26, wt27, x28, fw29, Wn30, hf31, hf32, hf33, hf34, hf35, hf36, hf37, hf38⟩
  · refine x_top e23 ?_
    obtain ⟨pl39, cm40, wt41, fs42, fw43, rs44⟩ := rf24
    obtain ⟨⟨nu45, mo46⟩, k47, k48⟩ := rs44
    obtain ⟨v49, v50, v51, v52, v53, v54, v55, n56, n57, bo58, bo59, zb60, k61⟩ := mo46
    refine x_if_ne C (tgt := 14) dX12_readsSum_9 (by decide) rfl (fun h => absurd h (by decide)) (fun _ => ?_)
    refine x_iconst C (v := 0) dX12_readsSum_12 (by decide) rfl ?_
    exact x_zret C hr hlk rfl dX12_readsSum_13 ⟨hW17, kp22, (Or.inl rfl), (Or.inl ⟨rfl, ⟨pl39, cm40, wt41, _, _, ⟨⟨_, ⟨v49, v50, v51, v52, v53, v54, v55, n56, n57, ⟨by omega, by omega, by omega, by omega, by omega, by omega, by omega⟩, ⟨by omega, by omega⟩, zb60, k61⟩⟩, k47, k48⟩⟩⟩)⟩
  · refine x_top e25 ?_
    obtain ⟨⟨nu62, mo63⟩, k64, k65⟩ := hf35
    obtain ⟨v66, v67, v68, v69, v70, v71, v72, n73, n74, bo75, bo76, zb77, k78⟩ := mo63
    refine x_if_ne C (tgt := 14) dX12_readsSum_9 (by decide) rfl (fun _ => ?_) (fun h => absurd h (by decide))
    have loop14 : ∀ (fu14 : Nat) (px : Nat) (cx : Nat) (wx : Nat) (nz : Int32) (fx : Nat → Int32) (gx : Nat → Int32) (Ws : WL) (wl14 : va_W), WX (okM E a cd) wl14 → le - px < fu14 → MO a cd wl14 tp px le cx wx sm lm nz → wl14[4]? = some (bA E (a 4) 260 tf) → wl14[5]? = some (iA E (a 5) 260 fx) → wl14[6]? = some (iA E (a 6) 260 gx) → wR gx (Ws ++ W) wx → sOps Ws → CI fx c0 cx (h + 1 + pend Ws) (Ws ++ W) → cx + wgt (Ws ++ W) + sg ≤ px ∧ wx ≤ px ∧ pl < px ∧ px ≤ le → (∀ k, k < c0 → fx k = fs k) → keeps ws wl14 (fun q => q = 0 ∨ q = 5 ∨ q = 6) → X E p l e (xRm 4 0 0) s m ([.ref (a 0)] : List Value).toArray below meth c A 3 0 0 (MQ below (va_Qi (fun r w => WX (okM E a cd) w ∧ keeps ws w (fun q => q = 0 ∨ q = 5 ∨ q = 6) ∧ zb r ∧ ((r = 0 ∧ RF E a cd w tp le sm lm) ∨ (r = 1 ∧ ∃ (pl2 cm2 : Nat) (fs2 fw2 : Nat → Int32), pl < pl2 ∧ pl2 ≤ le ∧ wR fw2 W wt ∧ RS E a cd w tp pl2 le cm2 wt sm lm fs2 fw2 ∧ CI fs2 c0 cm2 (h + 1) W ∧ cm2 + wgt W + sg ≤ pl2 ∧ ∀ k, k < c0 → fs2 k = fs k))) (xB E A) A) ([.ref (a 0)] : List Value).toArray s 0 0 A) wl14 14 [(0, .ref (a 0)), (1, .int (nI wt))] [] := by
      intro fu14
      induction fu14 with
      | zero => intro px cx wx nz fx gx Ws wl14 _ q; omega
      | succ fu14 ih14 =>
        intro px cx wx nz fx gx Ws wl14 hWl14 me14 iv14_0 iv14_1 iv14_2 iv14_3 iv14_4 iv14_5 iv14_6 iv14_7 iv14_8 kq14
        obtain ⟨v79, v80, v81, v82, v83, v84, v85, n86, n87, bo88, bo89, zb90, k91⟩ := iv14_0
        refine x_aload_n C dX12_readsSum_14 rfl 0 rfl rfl ?_
        refine x_vi C (As := []) (rest := []) (m_here E l a cd hG wl14 hWl14 tp px le cx wx sm lm nz ⟨v79, v80, v81, v82, v83, v84, v85, n86, n87, ⟨by omega, by omega, by omega, by omega, by omega, by omega, by omega⟩, ⟨by omega, by omega⟩, zb90, k91⟩ tf iv14_1) mf_X12_here w_1317 0 k91 rfl rfl rfl (Nat.le_of_ble_eq_true rfl) ⟨(Nat.le_of_ble_eq_true rfl), (Nat.le_of_ble_eq_true rfl)⟩ ⟨(Nat.le_of_ble_eq_true rfl), (Nat.le_of_ble_eq_true rfl)⟩ dX12_readsSum_15 rfl (fun r93 w94 h92 => ?_)
        obtain ⟨hW95, x96⟩ := h92
        refine x_ws hW95 ?_
        refine x_si C (As := [.int r93]) (rest := []) (m_sumSign E l a cd hG wl14 hWl14 r93) mf_X12_sumSign w_1356 rfl rfl (Nat.le_of_ble_eq_true rfl) ⟨(Nat.le_of_ble_eq_true rfl), (Nat.le_of_ble_eq_true rfl)⟩ ⟨(Nat.le_of_ble_eq_true rfl), (Nat.le_of_ble_eq_true rfl)⟩ dX12_readsSum_18 rfl (fun r98 w99 h97 => ?_)
        obtain ⟨hW100, x101⟩ := h97
        refine x_ws hW100 ?_
        rcases x101 with e102 | ⟨n103, hn104, en105, hm106⟩
        · refine x_top e102 ?_
          refine x_istore_n C (lv' := [(2, .int (-1)), (0, .ref (a 0)), (1, .int (nI wt))]) dX12_readsSum_21 rfl (by decide) rfl rfl ?_
          refine x_iload_n C dX12_readsSum_22 rfl 0 rfl rfl ?_
          refine x_iconst C (v := (-1)) dX12_readsSum_23 (by decide) rfl ?_
          refine x_icmp_eq C (tgt := 83) dX12_readsSum_24 (by decide) rfl (fun _ => ?_) (fun h => absurd h (by decide))
          refine x_aload_n C dX12_readsSum_83 rfl 1 rfl rfl ?_
          refine x_vi C (As := []) (rest := []) (m_here E l a cd hG wl14 hWl14 tp px le cx wx sm lm nz ⟨v79, v80, v81, v82, v83, v84, v85, n86, n87, ⟨by omega, by omega, by omega, by omega, by omega, by omega, by omega⟩, ⟨by omega, by omega⟩, zb90, k91⟩ tf iv14_1) mf_X12_here w_1317 0 k91 rfl rfl rfl (Nat.le_of_ble_eq_true rfl) ⟨(Nat.le_of_ble_eq_true rfl), (Nat.le_of_ble_eq_true rfl)⟩ ⟨(Nat.le_of_ble_eq_true rfl), (Nat.le_of_ble_eq_true rfl)⟩ dX12_readsSum_84 rfl (fun r108 w109 h107 => ?_)
          obtain ⟨hW110, x111⟩ := h107
          refine x_ws hW110 ?_
          refine x_bipush C (v := 93) dX12_readsSum_87 (by decide) rfl ?_
          refine x_icmp_ne C (tgt := 138) dX12_readsSum_89 (by decide) rfl (fun c112 => ?_) (fun c112 => ?_)
          · skip
            refine x_aload_n C dX12_readsSum_138 rfl 1 rfl rfl ?_
            refine x_iload_n C dX12_readsSum_139 rfl 2 rfl rfl ?_
            refine x_vi C (As := [.int (nI wt)]) (rest := []) (m_hasOpenSum E l a cd hG wl14 hWl14 wt tp px le cx wx sm lm nz ⟨v79, v80, v81, v82, v83, v84, v85, n86, n87, ⟨by omega, by omega, by omega, by omega, by omega, by omega, by omega⟩, ⟨by omega, by omega⟩, zb90, k91⟩ gx iv14_3 Ws W iv14_4 (wR_len hwr)) mf_X12_hasOpenSum w_1367 0 k91 rfl rfl rfl (Nat.le_of_ble_eq_true rfl) ⟨(Nat.le_of_ble_eq_true rfl), (Nat.le_of_ble_eq_true rfl)⟩ ⟨(Nat.le_of_ble_eq_true rfl), (Nat.le_of_ble_eq_true rfl)⟩ dX12_readsSum_140 rfl (fun r114 w115 h113 => ?_)
            obtain ⟨hW116, zb117, x118⟩ := h113
            refine x_ws hW116 ?_
            refine x_if_eq C (tgt := 156) dX12_readsSum_143 (by decide) rfl (fun c119 => ?_) (fun c119 => ?_)
            · skip
              refine x_aload_n C dX12_readsSum_156 rfl 1 rfl rfl ?_
              refine x_iconst C (v := 1) dX12_readsSum_157 (by decide) rfl ?_
              refine x_vv C (As := [.int 1]) (rest := []) (m_closesSums1 E l a cd hG wl14 hWl14 tp px le cx wx sm lm nz ⟨v79, v80, v81, v82, v83, v84, v85, n86, n87, ⟨by omega, by omega, by omega, by omega, by omega, by omega, by omega⟩, ⟨by omega, by omega⟩, zb90, k91⟩ fx iv14_2 gx iv14_3 Ws W iv14_4 iv14_5 hno c0 h iv14_6 (by omega) (by omega) (by omega)) mf_X12_closesSums w_1359 0 k91 rfl rfl rfl (Nat.le_of_ble_eq_true rfl) ⟨(Nat.le_of_ble_eq_true rfl), (Nat.le_of_ble_eq_true rfl)⟩ ⟨(Nat.le_of_ble_eq_true rfl), (Nat.le_of_ble_eq_true rfl)⟩ dX12_readsSum_158 rfl (fun w122 h120 => ?_)
              obtain ⟨hW123, kq124, x125⟩ := h120
              have k126 : w122[4]? = some (bA E (a 4) 260 tf) := keeps_at kq124 iv14_1 (by first | decide | omega | (dsimp only; omega))
              have k127 : w122[6]? = some (iA E (a 6) 260 gx) := keeps_at kq124 iv14_3 (by first | decide | omega | (dsimp only; omega))
              have kp128 := keeps_tr kq14 kq124 (fun q hq => by first | omega | (dsimp only at *; omega))
              obtain ⟨cm129, wt130, fs131, Wd132, We133, hc134, hc135, hc136, hc137, hc138, hc139, hc140, hc141, hc142, hc143, hc144⟩ := x125
              obtain ⟨v145, v146, v147, v148, v149, v150, v151, n152, n153, bo154, bo155, zb156, k157⟩ := hc138
              rcases hc144 with q9 | ⟨e, W1, q9, he14⟩
              rotate_left
              · exact (all14 (q9 ▸ hc134) (x118.2 c119) he14).elim
              subst q9
              have hwq : wt130 = wt := (wR_len hc136).symm.trans (wR_len hwr)
              refine x_iconst C (v := 1) dX12_readsSum_161 (by decide) rfl ?_
              exact x_zret C hr hlk rfl dX12_readsSum_162 ⟨hW123, kp128, (Or.inr rfl), (Or.inr ⟨rfl, px, cm129, _, _, by omega, by omega, hwq ▸ hc136, ⟨⟨_, hwq ▸ (show MO a cd w122 tp px le cm129 wt130 sm lm nz from ⟨v145, v146, v147, v148, v149, v150, v151, n152, n153, ⟨by omega, by omega, by omega, by omega, by omega, by omega, by omega⟩, ⟨by omega, by omega⟩, zb156, k157⟩)⟩, hc139, k127⟩, hc140, by have q8 : wgt ([] ++ W) = wgt W := rfl; omega, fun k hk => (hc142 k hk).trans (iv14_8 k hk)⟩)⟩
            · skip
              have h14158 := x118.1 c119
              refine x_aload_n C dX12_readsSum_146 rfl 1 rfl rfl ?_
              refine x_iconst C (v := 1) dX12_readsSum_147 (by decide) rfl ?_
              refine x_aload_n C dX12_readsSum_148 rfl 1 rfl rfl ?_
              refine x_get C (ci := 11) (k := 5) 0 k91 rfl in_X12 (by decide) w_1123 rfl dX12_readsSum_149 rfl ?_
              refine x_vi C (As := [.int 1, .int (nI px)]) (rest := []) (m_wrongAt E l a cd hG wl14 hWl14 (1 : Int32) ((nI px)) tp px le cx wx sm lm nz ⟨v79, v80, v81, v82, v83, v84, v85, n86, n87, ⟨by omega, by omega, by omega, by omega, by omega, by omega, by omega⟩, ⟨by omega, by omega⟩, zb90, k91⟩) mf_X12_wrongAt w_1324 0 k91 rfl rfl rfl (Nat.le_of_ble_eq_true rfl) ⟨(Nat.le_of_ble_eq_true rfl), (Nat.le_of_ble_eq_true rfl)⟩ ⟨(Nat.le_of_ble_eq_true rfl), (Nat.le_of_ble_eq_true rfl)⟩ dX12_readsSum_152 rfl (fun r160 w161 h159 => ?_)
              obtain ⟨hW162, kq163, e164, x165⟩ := h159
              refine x_top e164 ?_
              have k166 : w161[4]? = some (bA E (a 4) 260 tf) := keeps_at kq163 iv14_1 (by first | decide | omega | (dsimp only; omega))
              have k167 : w161[5]? = some (iA E (a 5) 260 fx) := keeps_at kq163 iv14_2 (by first | decide | omega | (dsimp only; omega))
              have k168 : w161[6]? = some (iA E (a 6) 260 gx) := keeps_at kq163 iv14_3 (by first | decide | omega | (dsimp only; omega))
              have kp169 := keeps_tr kq14 kq163 (fun q hq => by first | omega | (dsimp only at *; omega))
              obtain ⟨v170, v171, v172, v173, v174, v175, v176, n177, n178, bo179, bo180, zb181, k182⟩ := x165
              exact x_zret C hr hlk rfl dX12_readsSum_155 ⟨hW162, kp169, (Or.inl rfl), (Or.inl ⟨rfl, ⟨px, cx, wx, _, _, ⟨⟨_, ⟨v170, v171, v172, v173, v174, v175, v176, n177, n178, ⟨by omega, by omega, by omega, by omega, by omega, by omega, by omega⟩, ⟨by omega, by omega⟩, zb181, k182⟩⟩, k167, k168⟩⟩⟩)⟩
          · skip
            have hp183 := hv_lt (x111.symm.trans c112) (by decide)
            refine x_aload_n C dX12_readsSum_92 rfl 1 rfl rfl ?_
            refine x_iload_n C dX12_readsSum_93 rfl 2 rfl rfl ?_
            refine x_vi C (As := [.int (nI wt)]) (rest := []) (m_hasOpenSum E l a cd hG wl14 hWl14 wt tp px le cx wx sm lm nz ⟨v79, v80, v81, v82, v83, v84, v85, n86, n87, ⟨by omega, by omega, by omega, by omega, by omega, by omega, by omega⟩, ⟨by omega, by omega⟩, zb90, k91⟩ gx iv14_3 Ws W iv14_4 (wR_len hwr)) mf_X12_hasOpenSum w_1367 0 k91 rfl rfl rfl (Nat.le_of_ble_eq_true rfl) ⟨(Nat.le_of_ble_eq_true rfl), (Nat.le_of_ble_eq_true rfl)⟩ ⟨(Nat.le_of_ble_eq_true rfl), (Nat.le_of_ble_eq_true rfl)⟩ dX12_readsSum_94 rfl (fun r185 w186 h184 => ?_)
            obtain ⟨hW187, zb188, x189⟩ := h184
            refine x_ws hW187 ?_
            refine x_if_eq C (tgt := 138) dX12_readsSum_97 (by decide) rfl (fun c190 => ?_) (fun c190 => ?_)
            · skip
              refine x_aload_n C dX12_readsSum_138 rfl 1 rfl rfl ?_
              refine x_iload_n C dX12_readsSum_139 rfl 2 rfl rfl ?_
              refine x_vi C (As := [.int (nI wt)]) (rest := []) (m_hasOpenSum E l a cd hG wl14 hWl14 wt tp px le cx wx sm lm nz ⟨v79, v80, v81, v82, v83, v84, v85, n86, n87, ⟨by omega, by omega, by omega, by omega, by omega, by omega, by omega⟩, ⟨by omega, by omega⟩, zb90, k91⟩ gx iv14_3 Ws W iv14_4 (wR_len hwr)) mf_X12_hasOpenSum w_1367 0 k91 rfl rfl rfl (Nat.le_of_ble_eq_true rfl) ⟨(Nat.le_of_ble_eq_true rfl), (Nat.le_of_ble_eq_true rfl)⟩ ⟨(Nat.le_of_ble_eq_true rfl), (Nat.le_of_ble_eq_true rfl)⟩ dX12_readsSum_140 rfl (fun r192 w193 h191 => ?_)
              obtain ⟨hW194, zb195, x196⟩ := h191
              refine x_ws hW194 ?_
              refine x_if_eq C (tgt := 156) dX12_readsSum_143 (by decide) rfl (fun c197 => ?_) (fun c197 => ?_)
              · skip
                refine x_aload_n C dX12_readsSum_156 rfl 1 rfl rfl ?_
                refine x_iconst C (v := 1) dX12_readsSum_157 (by decide) rfl ?_
                refine x_vv C (As := [.int 1]) (rest := []) (m_closesSums1 E l a cd hG wl14 hWl14 tp px le cx wx sm lm nz ⟨v79, v80, v81, v82, v83, v84, v85, n86, n87, ⟨by omega, by omega, by omega, by omega, by omega, by omega, by omega⟩, ⟨by omega, by omega⟩, zb90, k91⟩ fx iv14_2 gx iv14_3 Ws W iv14_4 iv14_5 hno c0 h iv14_6 (by omega) (by omega) (by omega)) mf_X12_closesSums w_1359 0 k91 rfl rfl rfl (Nat.le_of_ble_eq_true rfl) ⟨(Nat.le_of_ble_eq_true rfl), (Nat.le_of_ble_eq_true rfl)⟩ ⟨(Nat.le_of_ble_eq_true rfl), (Nat.le_of_ble_eq_true rfl)⟩ dX12_readsSum_158 rfl (fun w200 h198 => ?_)
                obtain ⟨hW201, kq202, x203⟩ := h198
                have k204 : w200[4]? = some (bA E (a 4) 260 tf) := keeps_at kq202 iv14_1 (by first | decide | omega | (dsimp only; omega))
                have k205 : w200[6]? = some (iA E (a 6) 260 gx) := keeps_at kq202 iv14_3 (by first | decide | omega | (dsimp only; omega))
                have kp206 := keeps_tr kq14 kq202 (fun q hq => by first | omega | (dsimp only at *; omega))
                obtain ⟨cm207, wt208, fs209, Wd210, We211, hc212, hc213, hc214, hc215, hc216, hc217, hc218, hc219, hc220, hc221, hc222⟩ := x203
                obtain ⟨v223, v224, v225, v226, v227, v228, v229, n230, n231, bo232, bo233, zb234, k235⟩ := hc216
                rcases hc222 with q9 | ⟨e, W1, q9, he14⟩
                rotate_left
                · exact (all14 (q9 ▸ hc212) (x196.2 c197) he14).elim
                subst q9
                have hwq : wt208 = wt := (wR_len hc214).symm.trans (wR_len hwr)
                refine x_iconst C (v := 1) dX12_readsSum_161 (by decide) rfl ?_
                exact x_zret C hr hlk rfl dX12_readsSum_162 ⟨hW201, kp206, (Or.inr rfl), (Or.inr ⟨rfl, px, cm207, _, _, by omega, by omega, hwq ▸ hc214, ⟨⟨_, hwq ▸ (show MO a cd w200 tp px le cm207 wt208 sm lm nz from ⟨v223, v224, v225, v226, v227, v228, v229, n230, n231, ⟨by omega, by omega, by omega, by omega, by omega, by omega, by omega⟩, ⟨by omega, by omega⟩, zb234, k235⟩)⟩, hc217, k205⟩, hc218, by have q8 : wgt ([] ++ W) = wgt W := rfl; omega, fun k hk => (hc220 k hk).trans (iv14_8 k hk)⟩)⟩
              · skip
                have h14236 := x196.1 c197
                refine x_aload_n C dX12_readsSum_146 rfl 1 rfl rfl ?_
                refine x_iconst C (v := 1) dX12_readsSum_147 (by decide) rfl ?_
                refine x_aload_n C dX12_readsSum_148 rfl 1 rfl rfl ?_
                refine x_get C (ci := 11) (k := 5) 0 k91 rfl in_X12 (by decide) w_1123 rfl dX12_readsSum_149 rfl ?_
                refine x_vi C (As := [.int 1, .int (nI px)]) (rest := []) (m_wrongAt E l a cd hG wl14 hWl14 (1 : Int32) ((nI px)) tp px le cx wx sm lm nz ⟨v79, v80, v81, v82, v83, v84, v85, n86, n87, ⟨by omega, by omega, by omega, by omega, by omega, by omega, by omega⟩, ⟨by omega, by omega⟩, zb90, k91⟩) mf_X12_wrongAt w_1324 0 k91 rfl rfl rfl (Nat.le_of_ble_eq_true rfl) ⟨(Nat.le_of_ble_eq_true rfl), (Nat.le_of_ble_eq_true rfl)⟩ ⟨(Nat.le_of_ble_eq_true rfl), (Nat.le_of_ble_eq_true rfl)⟩ dX12_readsSum_152 rfl (fun r238 w239 h237 => ?_)
                obtain ⟨hW240, kq241, e242, x243⟩ := h237
                refine x_top e242 ?_
                have k244 : w239[4]? = some (bA E (a 4) 260 tf) := keeps_at kq241 iv14_1 (by first | decide | omega | (dsimp only; omega))
                have k245 : w239[5]? = some (iA E (a 5) 260 fx) := keeps_at kq241 iv14_2 (by first | decide | omega | (dsimp only; omega))
                have k246 : w239[6]? = some (iA E (a 6) 260 gx) := keeps_at kq241 iv14_3 (by first | decide | omega | (dsimp only; omega))
                have kp247 := keeps_tr kq14 kq241 (fun q hq => by first | omega | (dsimp only at *; omega))
                obtain ⟨v248, v249, v250, v251, v252, v253, v254, n255, n256, bo257, bo258, zb259, k260⟩ := x243
                exact x_zret C hr hlk rfl dX12_readsSum_155 ⟨hW240, kp247, (Or.inl rfl), (Or.inl ⟨rfl, ⟨px, cx, wx, _, _, ⟨⟨_, ⟨v248, v249, v250, v251, v252, v253, v254, n255, n256, ⟨by omega, by omega, by omega, by omega, by omega, by omega, by omega⟩, ⟨by omega, by omega⟩, zb259, k260⟩⟩, k245, k246⟩⟩⟩)⟩
            · skip
              have h14261 := x189.1 c190
              refine x_aload_n C dX12_readsSum_100 rfl 1 rfl rfl ?_
              refine x_iconst C (v := 1) dX12_readsSum_101 (by decide) rfl ?_
              refine x_vv C (As := [.int 1]) (rest := []) (m_closesSums1 E l a cd hG wl14 hWl14 tp px le cx wx sm lm nz ⟨v79, v80, v81, v82, v83, v84, v85, n86, n87, ⟨by omega, by omega, by omega, by omega, by omega, by omega, by omega⟩, ⟨by omega, by omega⟩, zb90, k91⟩ fx iv14_2 gx iv14_3 Ws W iv14_4 iv14_5 hno c0 h iv14_6 (by omega) (by omega) (by omega)) mf_X12_closesSums w_1359 0 k91 rfl rfl rfl (Nat.le_of_ble_eq_true rfl) ⟨(Nat.le_of_ble_eq_true rfl), (Nat.le_of_ble_eq_true rfl)⟩ ⟨(Nat.le_of_ble_eq_true rfl), (Nat.le_of_ble_eq_true rfl)⟩ dX12_readsSum_102 rfl (fun w264 h262 => ?_)
              obtain ⟨hW265, kq266, x267⟩ := h262
              have k268 : w264[4]? = some (bA E (a 4) 260 tf) := keeps_at kq266 iv14_1 (by first | decide | omega | (dsimp only; omega))
              have k269 : w264[6]? = some (iA E (a 6) 260 gx) := keeps_at kq266 iv14_3 (by first | decide | omega | (dsimp only; omega))
              have kp270 := keeps_tr kq14 kq266 (fun q hq => by first | omega | (dsimp only at *; omega))
              obtain ⟨cm271, wt272, fs273, Wd274, We275, hc276, hc277, hc278, hc279, hc280, hc281, hc282, hc283, hc284, hc285, hc286⟩ := x267
              obtain ⟨v287, v288, v289, v290, v291, v292, v293, n294, n295, bo296, bo297, zb298, k299⟩ := hc280
              rcases hc286 with q9 | ⟨e, W1, q9, he14⟩
              · exact (no14 (q9 ▸ hc276) hc277 h14261).elim
              subst q9
              have hw1 := hc278.1
              have hpe : pend (e :: W1) = pend W1 := by show pd1 e.1 + pend W1 = _; rw [pd1_0 (by omega)]; omega
              have hwe : wgt (e :: W1 ++ W) = wgt (W1 ++ W) := by show wg1 e.1 + wgt (W1 ++ W) = _; rw [wg1_0 (by omega)]; omega
              refine x_aload_n C dX12_readsSum_105 rfl 1 rfl rfl ?_
              refine x_aload_n C dX12_readsSum_106 rfl 1 rfl rfl ?_
              refine x_get C (ci := 11) (k := 11) 0 k299 rfl in_X12 (by decide) w_1129 rfl dX12_readsSum_107 rfl ?_
              refine x_iconst C (v := 1) dX12_readsSum_110 (by decide) rfl ?_
              refine x_isub C (v := (nI (wt272 - 1))) dX12_readsSum_111 (pk_sub (a := wt272) (b := 1) (by omega)) rfl ?_
              obtain ⟨w300, hw301⟩ : ∃ w : va_W, w = List.set w264 0 (ob (a 0) 11 [.ref (a 1), .ref (a 2), .ref (a 3), .ref (a 4), .int (nI tp), .int (nI px), .int (nI le), .int v287, .int nz, .int v288, .int (nI cm271), .int (nI (wt272 - 1)), .int (nI sm), .int (nI (cd.2.2.2.2.2)), .ref (a 5), .ref (a 6), .ref (a 7), .ref (a 8), .ref (a 9), .ref (a 10), .ref (a 11), .ref (a 12), .ref (a 13), .ref (a 14), .ref (a 15), .ref (a 16), .ref (a 17), .int (nI lm), .ref (a 18), .ref (a 19), .ref (a 20), .ref (a 21), .int v289, .int v290, .int v291, .int v292, .int (nI n294), .int (nI n295), .ref (a 22), .ref (a 23), .ref (a 24), .ref (a 25), .ref (a 26), .ref (a 27), .ref (a 28), .ref (a 29), .ref (a 30), .int v293]) := ⟨_, rfl⟩
              refine x_put C (ci := 11) (k := 11) (ty := .int) 0 k299 rfl in_X12 tyX12 tyX12_ok nmX12 (by decide) w_1129 rfl rfl rfl rfl (Nat.le_of_ble_eq_true rfl) hw301.symm dX12_readsSum_112 rfl ?_
              have hW302 : WX (okM E a cd) w300 := by rw [hw301]; exact hW265.set (k := 0) rfl ⟨tp, px, le, v287, nz, v288, cm271, (wt272 - 1), sm, lm, v289, v290, v291, v292, n294, n295, v293, by omega, by omega, by omega, by omega, by omega, by omega, by omega, by omega, by omega, zb298, rfl⟩
              have k303 : w300[4]? = some (bA E (a 4) 260 tf) := by rw [hw301]; exact set_ne k268 (by decide)
              have k304 : w300[6]? = some (iA E (a 6) 260 gx) := by rw [hw301]; exact set_ne k269 (by decide)
              have k305 : w300[0]? = some (ob (a 0) 11 [.ref (a 1), .ref (a 2), .ref (a 3), .ref (a 4), .int (nI tp), .int (nI px), .int (nI le), .int v287, .int nz, .int v288, .int (nI cm271), .int (nI (wt272 - 1)), .int (nI sm), .int (nI (cd.2.2.2.2.2)), .ref (a 5), .ref (a 6), .ref (a 7), .ref (a 8), .ref (a 9), .ref (a 10), .ref (a 11), .ref (a 12), .ref (a 13), .ref (a 14), .ref (a 15), .ref (a 16), .ref (a 17), .int (nI lm), .ref (a 18), .ref (a 19), .ref (a 20), .ref (a 21), .int v289, .int v290, .int v291, .int v292, .int (nI n294), .int (nI n295), .ref (a 22), .ref (a 23), .ref (a 24), .ref (a 25), .ref (a 26), .ref (a 27), .ref (a 28), .ref (a 29), .ref (a 30), .int v293]) := by rw [hw301]; exact set_eq k299
              have k306 : w300[5]? = some (iA E (a 5) 260 fs273) := by rw [hw301]; exact set_ne hc281 (by decide)
              have kp307 := keeps_set kp270 hw301 (by first | exact rfl | decide | omega | (dsimp only; omega))
              refine x_aload_n C dX12_readsSum_115 rfl 1 rfl rfl ?_
              refine x_aload_n C dX12_readsSum_116 rfl 1 rfl rfl ?_
              refine x_get C (ci := 11) (k := 9) 0 k305 rfl in_X12 (by decide) w_1127 rfl dX12_readsSum_117 rfl ?_
              refine x_iconst C (v := 1) dX12_readsSum_120 (by decide) rfl ?_
              refine x_isub C (v := (v288 - (1 : Int32))) dX12_readsSum_121 rfl rfl ?_
              refine x_any (fun v308 => ?_)
              obtain ⟨w309, hw310⟩ : ∃ w : va_W, w = List.set w300 0 (ob (a 0) 11 [.ref (a 1), .ref (a 2), .ref (a 3), .ref (a 4), .int (nI tp), .int (nI px), .int (nI le), .int v287, .int nz, .int v308, .int (nI cm271), .int (nI (wt272 - 1)), .int (nI sm), .int (nI (cd.2.2.2.2.2)), .ref (a 5), .ref (a 6), .ref (a 7), .ref (a 8), .ref (a 9), .ref (a 10), .ref (a 11), .ref (a 12), .ref (a 13), .ref (a 14), .ref (a 15), .ref (a 16), .ref (a 17), .int (nI lm), .ref (a 18), .ref (a 19), .ref (a 20), .ref (a 21), .int v289, .int v290, .int v291, .int v292, .int (nI n294), .int (nI n295), .ref (a 22), .ref (a 23), .ref (a 24), .ref (a 25), .ref (a 26), .ref (a 27), .ref (a 28), .ref (a 29), .ref (a 30), .int v293]) := ⟨_, rfl⟩
              refine x_put C (ci := 11) (k := 9) (ty := .int) 0 k305 rfl in_X12 tyX12 tyX12_ok nmX12 (by decide) w_1127 rfl rfl rfl rfl (Nat.le_of_ble_eq_true rfl) hw310.symm dX12_readsSum_122 rfl ?_
              have hW311 : WX (okM E a cd) w309 := by rw [hw310]; exact hW302.set (k := 0) rfl ⟨tp, px, le, v287, nz, v308, cm271, (wt272 - 1), sm, lm, v289, v290, v291, v292, n294, n295, v293, by omega, by omega, by omega, by omega, by omega, by omega, by omega, by omega, by omega, zb298, rfl⟩
              have k312 : w309[4]? = some (bA E (a 4) 260 tf) := by rw [hw310]; exact set_ne k303 (by decide)
              have k313 : w309[6]? = some (iA E (a 6) 260 gx) := by rw [hw310]; exact set_ne k304 (by decide)
              have k314 : w309[0]? = some (ob (a 0) 11 [.ref (a 1), .ref (a 2), .ref (a 3), .ref (a 4), .int (nI tp), .int (nI px), .int (nI le), .int v287, .int nz, .int v308, .int (nI cm271), .int (nI (wt272 - 1)), .int (nI sm), .int (nI (cd.2.2.2.2.2)), .ref (a 5), .ref (a 6), .ref (a 7), .ref (a 8), .ref (a 9), .ref (a 10), .ref (a 11), .ref (a 12), .ref (a 13), .ref (a 14), .ref (a 15), .ref (a 16), .ref (a 17), .int (nI lm), .ref (a 18), .ref (a 19), .ref (a 20), .ref (a 21), .int v289, .int v290, .int v291, .int v292, .int (nI n294), .int (nI n295), .ref (a 22), .ref (a 23), .ref (a 24), .ref (a 25), .ref (a 26), .ref (a 27), .ref (a 28), .ref (a 29), .ref (a 30), .int v293]) := by rw [hw310]; exact set_eq k305
              have k315 : w309[5]? = some (iA E (a 5) 260 fs273) := by rw [hw310]; exact set_ne k306 (by decide)
              have kp316 := keeps_set kp307 hw310 (by first | exact rfl | decide | omega | (dsimp only; omega))
              refine x_aload_n C dX12_readsSum_125 rfl 1 rfl rfl ?_
              refine x_aload_n C dX12_readsSum_126 rfl 1 rfl rfl ?_
              refine x_get C (ci := 11) (k := 5) 0 k314 rfl in_X12 (by decide) w_1123 rfl dX12_readsSum_127 rfl ?_
              refine x_iconst C (v := 1) dX12_readsSum_130 (by decide) rfl ?_
              refine x_iadd C (v := (nI (px + 1))) dX12_readsSum_131 (nI_add px 1) rfl ?_
              obtain ⟨w317, hw318⟩ : ∃ w : va_W, w = List.set w309 0 (ob (a 0) 11 [.ref (a 1), .ref (a 2), .ref (a 3), .ref (a 4), .int (nI tp), .int (nI (px + 1)), .int (nI le), .int v287, .int nz, .int v308, .int (nI cm271), .int (nI (wt272 - 1)), .int (nI sm), .int (nI (cd.2.2.2.2.2)), .ref (a 5), .ref (a 6), .ref (a 7), .ref (a 8), .ref (a 9), .ref (a 10), .ref (a 11), .ref (a 12), .ref (a 13), .ref (a 14), .ref (a 15), .ref (a 16), .ref (a 17), .int (nI lm), .ref (a 18), .ref (a 19), .ref (a 20), .ref (a 21), .int v289, .int v290, .int v291, .int v292, .int (nI n294), .int (nI n295), .ref (a 22), .ref (a 23), .ref (a 24), .ref (a 25), .ref (a 26), .ref (a 27), .ref (a 28), .ref (a 29), .ref (a 30), .int v293]) := ⟨_, rfl⟩
              refine x_put C (ci := 11) (k := 5) (ty := .int) 0 k314 rfl in_X12 tyX12 tyX12_ok nmX12 (by decide) w_1123 rfl rfl rfl rfl (Nat.le_of_ble_eq_true rfl) hw318.symm dX12_readsSum_132 rfl ?_
              have hW319 : WX (okM E a cd) w317 := by rw [hw318]; exact hW311.set (k := 0) rfl ⟨tp, (px + 1), le, v287, nz, v308, cm271, (wt272 - 1), sm, lm, v289, v290, v291, v292, n294, n295, v293, by omega, by omega, by omega, by omega, by omega, by omega, by omega, by omega, by omega, zb298, rfl⟩
              have k320 : w317[4]? = some (bA E (a 4) 260 tf) := by rw [hw318]; exact set_ne k312 (by decide)
              have k321 : w317[6]? = some (iA E (a 6) 260 gx) := by rw [hw318]; exact set_ne k313 (by decide)
              have k322 : w317[0]? = some (ob (a 0) 11 [.ref (a 1), .ref (a 2), .ref (a 3), .ref (a 4), .int (nI tp), .int (nI (px + 1)), .int (nI le), .int v287, .int nz, .int v308, .int (nI cm271), .int (nI (wt272 - 1)), .int (nI sm), .int (nI (cd.2.2.2.2.2)), .ref (a 5), .ref (a 6), .ref (a 7), .ref (a 8), .ref (a 9), .ref (a 10), .ref (a 11), .ref (a 12), .ref (a 13), .ref (a 14), .ref (a 15), .ref (a 16), .ref (a 17), .int (nI lm), .ref (a 18), .ref (a 19), .ref (a 20), .ref (a 21), .int v289, .int v290, .int v291, .int v292, .int (nI n294), .int (nI n295), .ref (a 22), .ref (a 23), .ref (a 24), .ref (a 25), .ref (a 26), .ref (a 27), .ref (a 28), .ref (a 29), .ref (a 30), .int v293]) := by rw [hw318]; exact set_eq k314
              have k323 : w317[5]? = some (iA E (a 5) 260 fs273) := by rw [hw318]; exact set_ne k315 (by decide)
              have kp324 := keeps_set kp316 hw318 (by first | exact rfl | decide | omega | (dsimp only; omega))
              refine x_goto C (tgt := 163) dX12_readsSum_135 (by decide) ?_
              refine x_goto C (tgt := 14) dX12_readsSum_163 (by decide) ?_
              refine x_lv (lv1 := [(0, .ref (a 0)), (1, .int (nI wt))]) [1, 2] rfl ?_
              exact ih14 (px + 1) cm271 (wt272 - 1) nz fs273 gx W1 w317 hW319 (by omega) ⟨v287, v308, v289, v290, v291, v292, v293, n294, n295, ⟨by omega, by omega, by omega, by omega, by omega, by omega, by omega⟩, ⟨by omega, by omega⟩, zb298, k322⟩ k320 k323 k321 hc278.2.2.2.2 (sOps_hd hc285).2 (CI_pop (hpe ▸ hc282) (nJ ⟨by omega, by omega⟩)) (by omega) (fun k hk => (hc284 k hk).trans (iv14_8 k hk)) kp324
        · refine x_top en105 ?_
          have hp325 := hv_lt (x96.symm) hm106
          refine x_istore_n C (lv' := [(2, .int (nI n103)), (0, .ref (a 0)), (1, .int (nI wt))]) dX12_readsSum_21 rfl (by decide) rfl rfl ?_
          refine x_iload_n C dX12_readsSum_22 rfl 0 rfl rfl ?_
          refine x_iconst C (v := (-1)) dX12_readsSum_23 (by decide) rfl ?_
          refine x_icmp_eq C (tgt := 83) dX12_readsSum_24 (by decide) rfl (fun h => absurd h (nI_nm1 (by omega))) (fun _ => ?_)
          refine x_aload_n C dX12_readsSum_27 rfl 1 rfl rfl ?_
          refine x_iload_n C dX12_readsSum_28 rfl 0 rfl rfl ?_
          refine x_iconst C (v := 4) dX12_readsSum_29 (by decide) rfl ?_
          refine x_icmp_ge C (tgt := 37) dX12_readsSum_30 (by decide) rfl (fun c326 => ?_) (fun c326 => ?_)
          · skip
            have nf327 := nI_le' (a := 4) (b := n103) c326 (by omega) (by omega)
            refine x_iconst C (v := 0) dX12_readsSum_37 (by decide) rfl ?_
            refine x_vv C (As := [.int 0]) (rest := []) (m_closesSums0 E l a cd hG wl14 hWl14 tp px le cx wx sm lm nz ⟨v79, v80, v81, v82, v83, v84, v85, n86, n87, ⟨by omega, by omega, by omega, by omega, by omega, by omega, by omega⟩, ⟨by omega, by omega⟩, zb90, k91⟩ fx iv14_2 gx iv14_3 Ws W iv14_4 iv14_5 hno c0 h iv14_6 (by omega) (by omega) (by omega)) mf_X12_closesSums w_1359 0 k91 rfl rfl rfl (Nat.le_of_ble_eq_true rfl) ⟨(Nat.le_of_ble_eq_true rfl), (Nat.le_of_ble_eq_true rfl)⟩ ⟨(Nat.le_of_ble_eq_true rfl), (Nat.le_of_ble_eq_true rfl)⟩ dX12_readsSum_38 rfl (fun w330 h328 => ?_)
            obtain ⟨hW331, kq332, x333⟩ := h328
            have k334 : w330[4]? = some (bA E (a 4) 260 tf) := keeps_at kq332 iv14_1 (by first | decide | omega | (dsimp only; omega))
            have k335 : w330[6]? = some (iA E (a 6) 260 gx) := keeps_at kq332 iv14_3 (by first | decide | omega | (dsimp only; omega))
            have kp336 := keeps_tr kq14 kq332 (fun q hq => by first | omega | (dsimp only at *; omega))
            obtain ⟨cm337, wt338, fs339, Wd340, We341, hc342, hc343, hc344, hc345, hc346, hc347, hc348, hc349, hc350, hc351⟩ := x333
            obtain ⟨v352, v353, v354, v355, v356, v357, v358, n359, n360, bo361, bo362, zb363, k364⟩ := hc346
            refine x_aload_n C dX12_readsSum_41 rfl 1 rfl rfl ?_
            refine x_get C (ci := 11) (k := 15) 0 k364 rfl in_X12 (by decide) w_1133 rfl dX12_readsSum_42 rfl ?_
            refine x_aload_n C dX12_readsSum_45 rfl 1 rfl rfl ?_
            refine x_get C (ci := 11) (k := 11) 0 k364 rfl in_X12 (by decide) w_1129 rfl dX12_readsSum_46 rfl ?_
            refine x_ldc C w_1340 dX12_readsSum_49 rfl ?_
            refine x_iload_n C dX12_readsSum_51 rfl 0 rfl rfl ?_
            refine x_imul C (v := (nI (1048576 * n103))) dX12_readsSum_52 (pk_mul 1048576 n103) rfl ?_
            obtain ⟨w365, hw366⟩ : ∃ w : va_W, w = List.set w330 6 (iA E (a 6) 260 (upd gx wt338 (nI (1048576 * n103)))) := ⟨_, rfl⟩
            refine x_iask C wt338 (nI_clamp (by omega)) (nI_pos (by omega)) (by omega) 6 k335 hw366.symm dX12_readsSum_53 rfl ?_
            have hW367 : WX (okM E a cd) w365 := by rw [hw366]; exact hW331.set (k := 6) rfl ⟨_, rfl⟩
            have k368 : w365[4]? = some (bA E (a 4) 260 tf) := by rw [hw366]; exact set_ne k334 (by decide)
            have k369 : w365[6]? = some (iA E (a 6) 260 (upd gx wt338 (nI (1048576 * n103)))) := by rw [hw366]; exact set_eq k335
            have k370 : w365[0]? = some (ob (a 0) 11 [.ref (a 1), .ref (a 2), .ref (a 3), .ref (a 4), .int (nI tp), .int (nI px), .int (nI le), .int v352, .int nz, .int v353, .int (nI cm337), .int (nI wt338), .int (nI sm), .int (nI (cd.2.2.2.2.2)), .ref (a 5), .ref (a 6), .ref (a 7), .ref (a 8), .ref (a 9), .ref (a 10), .ref (a 11), .ref (a 12), .ref (a 13), .ref (a 14), .ref (a 15), .ref (a 16), .ref (a 17), .int (nI lm), .ref (a 18), .ref (a 19), .ref (a 20), .ref (a 21), .int v354, .int v355, .int v356, .int v357, .int (nI n359), .int (nI n360), .ref (a 22), .ref (a 23), .ref (a 24), .ref (a 25), .ref (a 26), .ref (a 27), .ref (a 28), .ref (a 29), .ref (a 30), .int v358]) := by rw [hw366]; exact set_ne k364 (by decide)
            have k371 : w365[5]? = some (iA E (a 5) 260 fs339) := by rw [hw366]; exact set_ne hc347 (by decide)
            have kp372 := keeps_set kp336 hw366 (by first | exact rfl | decide | omega | (dsimp only; omega))
            refine x_aload_n C dX12_readsSum_54 rfl 1 rfl rfl ?_
            refine x_aload_n C dX12_readsSum_55 rfl 1 rfl rfl ?_
            refine x_get C (ci := 11) (k := 11) 0 k370 rfl in_X12 (by decide) w_1129 rfl dX12_readsSum_56 rfl ?_
            refine x_iconst C (v := 1) dX12_readsSum_59 (by decide) rfl ?_
            refine x_iadd C (v := (nI (wt338 + 1))) dX12_readsSum_60 (nI_add wt338 1) rfl ?_
            obtain ⟨w373, hw374⟩ : ∃ w : va_W, w = List.set w365 0 (ob (a 0) 11 [.ref (a 1), .ref (a 2), .ref (a 3), .ref (a 4), .int (nI tp), .int (nI px), .int (nI le), .int v352, .int nz, .int v353, .int (nI cm337), .int (nI (wt338 + 1)), .int (nI sm), .int (nI (cd.2.2.2.2.2)), .ref (a 5), .ref (a 6), .ref (a 7), .ref (a 8), .ref (a 9), .ref (a 10), .ref (a 11), .ref (a 12), .ref (a 13), .ref (a 14), .ref (a 15), .ref (a 16), .ref (a 17), .int (nI lm), .ref (a 18), .ref (a 19), .ref (a 20), .ref (a 21), .int v354, .int v355, .int v356, .int v357, .int (nI n359), .int (nI n360), .ref (a 22), .ref (a 23), .ref (a 24), .ref (a 25), .ref (a 26), .ref (a 27), .ref (a 28), .ref (a 29), .ref (a 30), .int v358]) := ⟨_, rfl⟩
            refine x_put C (ci := 11) (k := 11) (ty := .int) 0 k370 rfl in_X12 tyX12 tyX12_ok nmX12 (by decide) w_1129 rfl rfl rfl rfl (Nat.le_of_ble_eq_true rfl) hw374.symm dX12_readsSum_61 rfl ?_
            have hW375 : WX (okM E a cd) w373 := by rw [hw374]; exact hW367.set (k := 0) rfl ⟨tp, px, le, v352, nz, v353, cm337, (wt338 + 1), sm, lm, v354, v355, v356, v357, n359, n360, v358, by omega, by omega, by omega, by omega, by omega, by omega, by omega, by omega, by omega, zb363, rfl⟩
            have k376 : w373[4]? = some (bA E (a 4) 260 tf) := by rw [hw374]; exact set_ne k368 (by decide)
            have k377 : w373[6]? = some (iA E (a 6) 260 (upd gx wt338 (nI (1048576 * n103)))) := by rw [hw374]; exact set_ne k369 (by decide)
            have k378 : w373[0]? = some (ob (a 0) 11 [.ref (a 1), .ref (a 2), .ref (a 3), .ref (a 4), .int (nI tp), .int (nI px), .int (nI le), .int v352, .int nz, .int v353, .int (nI cm337), .int (nI (wt338 + 1)), .int (nI sm), .int (nI (cd.2.2.2.2.2)), .ref (a 5), .ref (a 6), .ref (a 7), .ref (a 8), .ref (a 9), .ref (a 10), .ref (a 11), .ref (a 12), .ref (a 13), .ref (a 14), .ref (a 15), .ref (a 16), .ref (a 17), .int (nI lm), .ref (a 18), .ref (a 19), .ref (a 20), .ref (a 21), .int v354, .int v355, .int v356, .int v357, .int (nI n359), .int (nI n360), .ref (a 22), .ref (a 23), .ref (a 24), .ref (a 25), .ref (a 26), .ref (a 27), .ref (a 28), .ref (a 29), .ref (a 30), .int v358]) := by rw [hw374]; exact set_eq k370
            have k379 : w373[5]? = some (iA E (a 5) 260 fs339) := by rw [hw374]; exact set_ne k371 (by decide)
            have kp380 := keeps_set kp372 hw374 (by first | exact rfl | decide | omega | (dsimp only; omega))
            refine x_aload_n C dX12_readsSum_64 rfl 1 rfl rfl ?_
            refine x_aload_n C dX12_readsSum_65 rfl 1 rfl rfl ?_
            refine x_get C (ci := 11) (k := 5) 0 k378 rfl in_X12 (by decide) w_1123 rfl dX12_readsSum_66 rfl ?_
            refine x_iconst C (v := 1) dX12_readsSum_69 (by decide) rfl ?_
            refine x_iadd C (v := (nI (px + 1))) dX12_readsSum_70 (nI_add px 1) rfl ?_
            obtain ⟨w381, hw382⟩ : ∃ w : va_W, w = List.set w373 0 (ob (a 0) 11 [.ref (a 1), .ref (a 2), .ref (a 3), .ref (a 4), .int (nI tp), .int (nI (px + 1)), .int (nI le), .int v352, .int nz, .int v353, .int (nI cm337), .int (nI (wt338 + 1)), .int (nI sm), .int (nI (cd.2.2.2.2.2)), .ref (a 5), .ref (a 6), .ref (a 7), .ref (a 8), .ref (a 9), .ref (a 10), .ref (a 11), .ref (a 12), .ref (a 13), .ref (a 14), .ref (a 15), .ref (a 16), .ref (a 17), .int (nI lm), .ref (a 18), .ref (a 19), .ref (a 20), .ref (a 21), .int v354, .int v355, .int v356, .int v357, .int (nI n359), .int (nI n360), .ref (a 22), .ref (a 23), .ref (a 24), .ref (a 25), .ref (a 26), .ref (a 27), .ref (a 28), .ref (a 29), .ref (a 30), .int v358]) := ⟨_, rfl⟩
            refine x_put C (ci := 11) (k := 5) (ty := .int) 0 k378 rfl in_X12 tyX12 tyX12_ok nmX12 (by decide) w_1123 rfl rfl rfl rfl (Nat.le_of_ble_eq_true rfl) hw382.symm dX12_readsSum_71 rfl ?_
            have hW383 : WX (okM E a cd) w381 := by rw [hw382]; exact hW375.set (k := 0) rfl ⟨tp, (px + 1), le, v352, nz, v353, cm337, (wt338 + 1), sm, lm, v354, v355, v356, v357, n359, n360, v358, by omega, by omega, by omega, by omega, by omega, by omega, by omega, by omega, by omega, zb363, rfl⟩
            have k384 : w381[4]? = some (bA E (a 4) 260 tf) := by rw [hw382]; exact set_ne k376 (by decide)
            have k385 : w381[6]? = some (iA E (a 6) 260 (upd gx wt338 (nI (1048576 * n103)))) := by rw [hw382]; exact set_ne k377 (by decide)
            have k386 : w381[0]? = some (ob (a 0) 11 [.ref (a 1), .ref (a 2), .ref (a 3), .ref (a 4), .int (nI tp), .int (nI (px + 1)), .int (nI le), .int v352, .int nz, .int v353, .int (nI cm337), .int (nI (wt338 + 1)), .int (nI sm), .int (nI (cd.2.2.2.2.2)), .ref (a 5), .ref (a 6), .ref (a 7), .ref (a 8), .ref (a 9), .ref (a 10), .ref (a 11), .ref (a 12), .ref (a 13), .ref (a 14), .ref (a 15), .ref (a 16), .ref (a 17), .int (nI lm), .ref (a 18), .ref (a 19), .ref (a 20), .ref (a 21), .int v354, .int v355, .int v356, .int v357, .int (nI n359), .int (nI n360), .ref (a 22), .ref (a 23), .ref (a 24), .ref (a 25), .ref (a 26), .ref (a 27), .ref (a 28), .ref (a 29), .ref (a 30), .int v358]) := by rw [hw382]; exact set_eq k378
            have k387 : w381[5]? = some (iA E (a 5) 260 fs339) := by rw [hw382]; exact set_ne k379 (by decide)
            have kp388 := keeps_set kp380 hw382 (by first | exact rfl | decide | omega | (dsimp only; omega))
            have hq389 := pend_len (W := We341)
            have hq390 := len_app hc344
            have hq391 : wgt ((n103, 0) :: (We341 ++ W)) = 1 + wgt (We341 ++ W) := by show wg1 n103 + wgt (We341 ++ W) = _; rw [wg1_1 (Or.inl (by omega))]
            refine x_aload_n C dX12_readsSum_74 rfl 1 rfl rfl ?_
            refine x_vi C (As := []) (rest := []) (m_readsFactor E l a cd hG w381 hW383 tp (px + 1) le cm337 (wt338 + 1) sm lm nz ⟨v352, v353, v354, v355, v356, v357, v358, n359, n360, ⟨by omega, by omega, by omega, by omega, by omega, by omega, by omega⟩, ⟨by omega, by omega⟩, zb363, k386⟩ tf k384 (by omega) fs339 k387 ((upd gx wt338 (nI (1048576 * n103)))) k385 ((n103, 0) :: (We341 ++ W)) (wR_push (op := n103) (pay := 0) hc344 (by omega) (by omega)) c0 (h + 1 + pend We341) (CI_push (e := (n103, 0)) hc348 (nJ ⟨by show n103 ≠ 11; omega, by show n103 ≠ 12; omega⟩)) (by omega) sg (by omega) (by omega)) mf_X12_readsFactor w_1332 0 k386 rfl rfl rfl (Nat.le_of_ble_eq_true rfl) ⟨(Nat.le_of_ble_eq_true rfl), (Nat.le_of_ble_eq_true rfl)⟩ ⟨(Nat.le_of_ble_eq_true rfl), (Nat.le_of_ble_eq_true rfl)⟩ dX12_readsSum_75 rfl (fun r393 w394 h392 => ?_)
            obtain ⟨hW395, kq396, zb397, x398⟩ := h392
            have k399 : w394[4]? = some (bA E (a 4) 260 tf) := keeps_at kq396 k384 (by first | decide | omega | (dsimp only; omega))
            have kp400 := keeps_tr kp388 kq396 (fun q hq => by first | omega | (dsimp only at *; omega))
            rcases x398 with ⟨e401, rf402⟩ | ⟨e403, pl404, wt405, x406, fw407, Wn408, hf409, hf410, hf411, hf412, hf413, hf414, hf415, hf416⟩
            · refine x_top e401 ?_
              obtain ⟨pl417, cm418, wt419, fs420, fw421, rs422⟩ := rf402
              obtain ⟨⟨nu423, mo424⟩, k425, k426⟩ := rs422
              obtain ⟨v427, v428, v429, v430, v431, v432, v433, n434, n435, bo436, bo437, zb438, k439⟩ := mo424
              refine x_if_ne C (tgt := 163) dX12_readsSum_78 (by decide) rfl (fun h => absurd h (by decide)) (fun _ => ?_)
              refine x_iconst C (v := 0) dX12_readsSum_81 (by decide) rfl ?_
              exact x_zret C hr hlk rfl dX12_readsSum_82 ⟨hW395, kp400, (Or.inl rfl), (Or.inl ⟨rfl, ⟨pl417, cm418, wt419, _, _, ⟨⟨_, ⟨v427, v428, v429, v430, v431, v432, v433, n434, n435, ⟨by omega, by omega, by omega, by omega, by omega, by omega, by omega⟩, ⟨by omega, by omega⟩, zb438, k439⟩⟩, k425, k426⟩⟩⟩)⟩
            · refine x_top e403 ?_
              obtain ⟨⟨nu440, mo441⟩, k442, k443⟩ := hf413
              obtain ⟨v444, v445, v446, v447, v448, v449, v450, n451, n452, bo453, bo454, zb455, k456⟩ := mo441
              refine x_if_ne C (tgt := 163) dX12_readsSum_78 (by decide) rfl (fun _ => ?_) (fun h => absurd h (by decide))
              refine x_goto C (tgt := 14) dX12_readsSum_163 (by decide) ?_
              refine x_lv (lv1 := [(0, .ref (a 0)), (1, .int (nI wt))]) [1, 2] rfl ?_
              exact ih14 pl404 (cm337 + 1) wt405 nu440 ((upd fs339 cm337 x406)) fw407 (Wn408 ++ (n103, 0) :: We341) w394 hW395 (by omega) ⟨v444, v445, v446, v447, v448, v449, v450, n451, n452, ⟨by omega, by omega, by omega, by omega, by omega, by omega, by omega⟩, ⟨by omega, by omega⟩, zb455, k456⟩ k399 k442 k443 (by rw [asc3]; exact hf412) (sOps_app (pend14 hf411).2.2 (sOps_cons (e := (n103, 0)) (Or.inl ⟨by show 2 ≤ n103; omega, by show n103 ≤ 6; omega⟩) hc351)) (by rw [asc3, pend_app, (pend14 hf411).1, show pend ((n103, 0) :: We341) = 1 + pend We341 from by show pd1 n103 + pend We341 = _; rw [pd1_1 (by omega)], show h + 1 + (0 + (1 + pend We341)) = h + 1 + pend We341 + 1 from by omega]; exact hf414) (by rw [asc3, wgt_app, (pend14 hf411).2.1]; omega) (ag_upd (fun k hk => (hc350 k hk).trans (iv14_8 k hk)) (CI_le hc348)) kp400
          · skip
            have nf457 := nI_nle' (a := 4) (b := n103) c326 (by omega) (by omega)
            refine x_iconst C (v := 1) dX12_readsSum_33 (by decide) rfl ?_
            refine x_goto C (tgt := 38) dX12_readsSum_34 (by decide) ?_
            refine x_vv C (As := [.int 1]) (rest := []) (m_closesSums1 E l a cd hG wl14 hWl14 tp px le cx wx sm lm nz ⟨v79, v80, v81, v82, v83, v84, v85, n86, n87, ⟨by omega, by omega, by omega, by omega, by omega, by omega, by omega⟩, ⟨by omega, by omega⟩, zb90, k91⟩ fx iv14_2 gx iv14_3 Ws W iv14_4 iv14_5 hno c0 h iv14_6 (by omega) (by omega) (by omega)) mf_X12_closesSums w_1359 0 k91 rfl rfl rfl (Nat.le_of_ble_eq_true rfl) ⟨(Nat.le_of_ble_eq_true rfl), (Nat.le_of_ble_eq_true rfl)⟩ ⟨(Nat.le_of_ble_eq_true rfl), (Nat.le_of_ble_eq_true rfl)⟩ dX12_readsSum_38 rfl (fun w460 h458 => ?_)
            obtain ⟨hW461, kq462, x463⟩ := h458
            have k464 : w460[4]? = some (bA E (a 4) 260 tf) := keeps_at kq462 iv14_1 (by first | decide | omega | (dsimp only; omega))
            have k465 : w460[6]? = some (iA E (a 6) 260 gx) := keeps_at kq462 iv14_3 (by first | decide | omega | (dsimp only; omega))
            have kp466 := keeps_tr kq14 kq462 (fun q hq => by first | omega | (dsimp only at *; omega))
            obtain ⟨cm467, wt468, fs469, Wd470, We471, hc472, hc473, hc474, hc475, hc476, hc477, hc478, hc479, hc480, hc481, hc482⟩ := x463
            obtain ⟨v483, v484, v485, v486, v487, v488, v489, n490, n491, bo492, bo493, zb494, k495⟩ := hc476
            refine x_aload_n C dX12_readsSum_41 rfl 1 rfl rfl ?_
            refine x_get C (ci := 11) (k := 15) 0 k495 rfl in_X12 (by decide) w_1133 rfl dX12_readsSum_42 rfl ?_
            refine x_aload_n C dX12_readsSum_45 rfl 1 rfl rfl ?_
            refine x_get C (ci := 11) (k := 11) 0 k495 rfl in_X12 (by decide) w_1129 rfl dX12_readsSum_46 rfl ?_
            refine x_ldc C w_1340 dX12_readsSum_49 rfl ?_
            refine x_iload_n C dX12_readsSum_51 rfl 0 rfl rfl ?_
            refine x_imul C (v := (nI (1048576 * n103))) dX12_readsSum_52 (pk_mul 1048576 n103) rfl ?_
            obtain ⟨w496, hw497⟩ : ∃ w : va_W, w = List.set w460 6 (iA E (a 6) 260 (upd gx wt468 (nI (1048576 * n103)))) := ⟨_, rfl⟩
            refine x_iask C wt468 (nI_clamp (by omega)) (nI_pos (by omega)) (by omega) 6 k465 hw497.symm dX12_readsSum_53 rfl ?_
            have hW498 : WX (okM E a cd) w496 := by rw [hw497]; exact hW461.set (k := 6) rfl ⟨_, rfl⟩
            have k499 : w496[4]? = some (bA E (a 4) 260 tf) := by rw [hw497]; exact set_ne k464 (by decide)
            have k500 : w496[6]? = some (iA E (a 6) 260 (upd gx wt468 (nI (1048576 * n103)))) := by rw [hw497]; exact set_eq k465
            have k501 : w496[0]? = some (ob (a 0) 11 [.ref (a 1), .ref (a 2), .ref (a 3), .ref (a 4), .int (nI tp), .int (nI px), .int (nI le), .int v483, .int nz, .int v484, .int (nI cm467), .int (nI wt468), .int (nI sm), .int (nI (cd.2.2.2.2.2)), .ref (a 5), .ref (a 6), .ref (a 7), .ref (a 8), .ref (a 9), .ref (a 10), .ref (a 11), .ref (a 12), .ref (a 13), .ref (a 14), .ref (a 15), .ref (a 16), .ref (a 17), .int (nI lm), .ref (a 18), .ref (a 19), .ref (a 20), .ref (a 21), .int v485, .int v486, .int v487, .int v488, .int (nI n490), .int (nI n491), .ref (a 22), .ref (a 23), .ref (a 24), .ref (a 25), .ref (a 26), .ref (a 27), .ref (a 28), .ref (a 29), .ref (a 30), .int v489]) := by rw [hw497]; exact set_ne k495 (by decide)
            have k502 : w496[5]? = some (iA E (a 5) 260 fs469) := by rw [hw497]; exact set_ne hc477 (by decide)
            have kp503 := keeps_set kp466 hw497 (by first | exact rfl | decide | omega | (dsimp only; omega))
            refine x_aload_n C dX12_readsSum_54 rfl 1 rfl rfl ?_
            refine x_aload_n C dX12_readsSum_55 rfl 1 rfl rfl ?_
            refine x_get C (ci := 11) (k := 11) 0 k501 rfl in_X12 (by decide) w_1129 rfl dX12_readsSum_56 rfl ?_
            refine x_iconst C (v := 1) dX12_readsSum_59 (by decide) rfl ?_
            refine x_iadd C (v := (nI (wt468 + 1))) dX12_readsSum_60 (nI_add wt468 1) rfl ?_
            obtain ⟨w504, hw505⟩ : ∃ w : va_W, w = List.set w496 0 (ob (a 0) 11 [.ref (a 1), .ref (a 2), .ref (a 3), .ref (a 4), .int (nI tp), .int (nI px), .int (nI le), .int v483, .int nz, .int v484, .int (nI cm467), .int (nI (wt468 + 1)), .int (nI sm), .int (nI (cd.2.2.2.2.2)), .ref (a 5), .ref (a 6), .ref (a 7), .ref (a 8), .ref (a 9), .ref (a 10), .ref (a 11), .ref (a 12), .ref (a 13), .ref (a 14), .ref (a 15), .ref (a 16), .ref (a 17), .int (nI lm), .ref (a 18), .ref (a 19), .ref (a 20), .ref (a 21), .int v485, .int v486, .int v487, .int v488, .int (nI n490), .int (nI n491), .ref (a 22), .ref (a 23), .ref (a 24), .ref (a 25), .ref (a 26), .ref (a 27), .ref (a 28), .ref (a 29), .ref (a 30), .int v489]) := ⟨_, rfl⟩
            refine x_put C (ci := 11) (k := 11) (ty := .int) 0 k501 rfl in_X12 tyX12 tyX12_ok nmX12 (by decide) w_1129 rfl rfl rfl rfl (Nat.le_of_ble_eq_true rfl) hw505.symm dX12_readsSum_61 rfl ?_
            have hW506 : WX (okM E a cd) w504 := by rw [hw505]; exact hW498.set (k := 0) rfl ⟨tp, px, le, v483, nz, v484, cm467, (wt468 + 1), sm, lm, v485, v486, v487, v488, n490, n491, v489, by omega, by omega, by omega, by omega, by omega, by omega, by omega, by omega, by omega, zb494, rfl⟩
            have k507 : w504[4]? = some (bA E (a 4) 260 tf) := by rw [hw505]; exact set_ne k499 (by decide)
            have k508 : w504[6]? = some (iA E (a 6) 260 (upd gx wt468 (nI (1048576 * n103)))) := by rw [hw505]; exact set_ne k500 (by decide)
            have k509 : w504[0]? = some (ob (a 0) 11 [.ref (a 1), .ref (a 2), .ref (a 3), .ref (a 4), .int (nI tp), .int (nI px), .int (nI le), .int v483, .int nz, .int v484, .int (nI cm467), .int (nI (wt468 + 1)), .int (nI sm), .int (nI (cd.2.2.2.2.2)), .ref (a 5), .ref (a 6), .ref (a 7), .ref (a 8), .ref (a 9), .ref (a 10), .ref (a 11), .ref (a 12), .ref (a 13), .ref (a 14), .ref (a 15), .ref (a 16), .ref (a 17), .int (nI lm), .ref (a 18), .ref (a 19), .ref (a 20), .ref (a 21), .int v485, .int v486, .int v487, .int v488, .int (nI n490), .int (nI n491), .ref (a 22), .ref (a 23), .ref (a 24), .ref (a 25), .ref (a 26), .ref (a 27), .ref (a 28), .ref (a 29), .ref (a 30), .int v489]) := by rw [hw505]; exact set_eq k501
            have k510 : w504[5]? = some (iA E (a 5) 260 fs469) := by rw [hw505]; exact set_ne k502 (by decide)
            have kp511 := keeps_set kp503 hw505 (by first | exact rfl | decide | omega | (dsimp only; omega))
            refine x_aload_n C dX12_readsSum_64 rfl 1 rfl rfl ?_
            refine x_aload_n C dX12_readsSum_65 rfl 1 rfl rfl ?_
            refine x_get C (ci := 11) (k := 5) 0 k509 rfl in_X12 (by decide) w_1123 rfl dX12_readsSum_66 rfl ?_
            refine x_iconst C (v := 1) dX12_readsSum_69 (by decide) rfl ?_
            refine x_iadd C (v := (nI (px + 1))) dX12_readsSum_70 (nI_add px 1) rfl ?_
            obtain ⟨w512, hw513⟩ : ∃ w : va_W, w = List.set w504 0 (ob (a 0) 11 [.ref (a 1), .ref (a 2), .ref (a 3), .ref (a 4), .int (nI tp), .int (nI (px + 1)), .int (nI le), .int v483, .int nz, .int v484, .int (nI cm467), .int (nI (wt468 + 1)), .int (nI sm), .int (nI (cd.2.2.2.2.2)), .ref (a 5), .ref (a 6), .ref (a 7), .ref (a 8), .ref (a 9), .ref (a 10), .ref (a 11), .ref (a 12), .ref (a 13), .ref (a 14), .ref (a 15), .ref (a 16), .ref (a 17), .int (nI lm), .ref (a 18), .ref (a 19), .ref (a 20), .ref (a 21), .int v485, .int v486, .int v487, .int v488, .int (nI n490), .int (nI n491), .ref (a 22), .ref (a 23), .ref (a 24), .ref (a 25), .ref (a 26), .ref (a 27), .ref (a 28), .ref (a 29), .ref (a 30), .int v489]) := ⟨_, rfl⟩
            refine x_put C (ci := 11) (k := 5) (ty := .int) 0 k509 rfl in_X12 tyX12 tyX12_ok nmX12 (by decide) w_1123 rfl rfl rfl rfl (Nat.le_of_ble_eq_true rfl) hw513.symm dX12_readsSum_71 rfl ?_
            have hW514 : WX (okM E a cd) w512 := by rw [hw513]; exact hW506.set (k := 0) rfl ⟨tp, (px + 1), le, v483, nz, v484, cm467, (wt468 + 1), sm, lm, v485, v486, v487, v488, n490, n491, v489, by omega, by omega, by omega, by omega, by omega, by omega, by omega, by omega, by omega, zb494, rfl⟩
            have k515 : w512[4]? = some (bA E (a 4) 260 tf) := by rw [hw513]; exact set_ne k507 (by decide)
            have k516 : w512[6]? = some (iA E (a 6) 260 (upd gx wt468 (nI (1048576 * n103)))) := by rw [hw513]; exact set_ne k508 (by decide)
            have k517 : w512[0]? = some (ob (a 0) 11 [.ref (a 1), .ref (a 2), .ref (a 3), .ref (a 4), .int (nI tp), .int (nI (px + 1)), .int (nI le), .int v483, .int nz, .int v484, .int (nI cm467), .int (nI (wt468 + 1)), .int (nI sm), .int (nI (cd.2.2.2.2.2)), .ref (a 5), .ref (a 6), .ref (a 7), .ref (a 8), .ref (a 9), .ref (a 10), .ref (a 11), .ref (a 12), .ref (a 13), .ref (a 14), .ref (a 15), .ref (a 16), .ref (a 17), .int (nI lm), .ref (a 18), .ref (a 19), .ref (a 20), .ref (a 21), .int v485, .int v486, .int v487, .int v488, .int (nI n490), .int (nI n491), .ref (a 22), .ref (a 23), .ref (a 24), .ref (a 25), .ref (a 26), .ref (a 27), .ref (a 28), .ref (a 29), .ref (a 30), .int v489]) := by rw [hw513]; exact set_eq k509
            have k518 : w512[5]? = some (iA E (a 5) 260 fs469) := by rw [hw513]; exact set_ne k510 (by decide)
            have kp519 := keeps_set kp511 hw513 (by first | exact rfl | decide | omega | (dsimp only; omega))
            have hq520 := pend_len (W := We471)
            have hq521 := len_app hc474
            have hq522 : wgt ((n103, 0) :: (We471 ++ W)) = 1 + wgt (We471 ++ W) := by show wg1 n103 + wgt (We471 ++ W) = _; rw [wg1_1 (Or.inl (by omega))]
            refine x_aload_n C dX12_readsSum_74 rfl 1 rfl rfl ?_
            refine x_vi C (As := []) (rest := []) (m_readsFactor E l a cd hG w512 hW514 tp (px + 1) le cm467 (wt468 + 1) sm lm nz ⟨v483, v484, v485, v486, v487, v488, v489, n490, n491, ⟨by omega, by omega, by omega, by omega, by omega, by omega, by omega⟩, ⟨by omega, by omega⟩, zb494, k517⟩ tf k515 (by omega) fs469 k518 ((upd gx wt468 (nI (1048576 * n103)))) k516 ((n103, 0) :: (We471 ++ W)) (wR_push (op := n103) (pay := 0) hc474 (by omega) (by omega)) c0 (h + 1 + pend We471) (CI_push (e := (n103, 0)) hc478 (nJ ⟨by show n103 ≠ 11; omega, by show n103 ≠ 12; omega⟩)) (by omega) sg (by omega) (by omega)) mf_X12_readsFactor w_1332 0 k517 rfl rfl rfl (Nat.le_of_ble_eq_true rfl) ⟨(Nat.le_of_ble_eq_true rfl), (Nat.le_of_ble_eq_true rfl)⟩ ⟨(Nat.le_of_ble_eq_true rfl), (Nat.le_of_ble_eq_true rfl)⟩ dX12_readsSum_75 rfl (fun r524 w525 h523 => ?_)
            obtain ⟨hW526, kq527, zb528, x529⟩ := h523
            have k530 : w525[4]? = some (bA E (a 4) 260 tf) := keeps_at kq527 k515 (by first | decide | omega | (dsimp only; omega))
            have kp531 := keeps_tr kp519 kq527 (fun q hq => by first | omega | (dsimp only at *; omega))
            rcases x529 with ⟨e532, rf533⟩ | ⟨e534, pl535, wt536, x537, fw538, Wn539, hf540, hf541, hf542, hf543, hf544, hf545, hf546, hf547⟩
            · refine x_top e532 ?_
              obtain ⟨pl548, cm549, wt550, fs551, fw552, rs553⟩ := rf533
              obtain ⟨⟨nu554, mo555⟩, k556, k557⟩ := rs553
              obtain ⟨v558, v559, v560, v561, v562, v563, v564, n565, n566, bo567, bo568, zb569, k570⟩ := mo555
              refine x_if_ne C (tgt := 163) dX12_readsSum_78 (by decide) rfl (fun h => absurd h (by decide)) (fun _ => ?_)
              refine x_iconst C (v := 0) dX12_readsSum_81 (by decide) rfl ?_
              exact x_zret C hr hlk rfl dX12_readsSum_82 ⟨hW526, kp531, (Or.inl rfl), (Or.inl ⟨rfl, ⟨pl548, cm549, wt550, _, _, ⟨⟨_, ⟨v558, v559, v560, v561, v562, v563, v564, n565, n566, ⟨by omega, by omega, by omega, by omega, by omega, by omega, by omega⟩, ⟨by omega, by omega⟩, zb569, k570⟩⟩, k556, k557⟩⟩⟩)⟩
            · refine x_top e534 ?_
              obtain ⟨⟨nu571, mo572⟩, k573, k574⟩ := hf544
              obtain ⟨v575, v576, v577, v578, v579, v580, v581, n582, n583, bo584, bo585, zb586, k587⟩ := mo572
              refine x_if_ne C (tgt := 163) dX12_readsSum_78 (by decide) rfl (fun _ => ?_) (fun h => absurd h (by decide))
              refine x_goto C (tgt := 14) dX12_readsSum_163 (by decide) ?_
              refine x_lv (lv1 := [(0, .ref (a 0)), (1, .int (nI wt))]) [1, 2] rfl ?_
              exact ih14 pl535 (cm467 + 1) wt536 nu571 ((upd fs469 cm467 x537)) fw538 (Wn539 ++ (n103, 0) :: We471) w525 hW526 (by omega) ⟨v575, v576, v577, v578, v579, v580, v581, n582, n583, ⟨by omega, by omega, by omega, by omega, by omega, by omega, by omega⟩, ⟨by omega, by omega⟩, zb586, k587⟩ k530 k573 k574 (by rw [asc3]; exact hf543) (sOps_app (pend14 hf542).2.2 (sOps_cons (e := (n103, 0)) (Or.inl ⟨by show 2 ≤ n103; omega, by show n103 ≤ 6; omega⟩) hc481)) (by rw [asc3, pend_app, (pend14 hf542).1, show pend ((n103, 0) :: We471) = 1 + pend We471 from by show pd1 n103 + pend We471 = _; rw [pd1_1 (by omega)], show h + 1 + (0 + (1 + pend We471)) = h + 1 + pend We471 + 1 from by omega]; exact hf545) (by rw [asc3, wgt_app, (pend14 hf542).2.1]; omega) (ag_upd (fun k hk => (hc480 k hk).trans (iv14_8 k hk)) (CI_le hc478)) kp531
    refine x_lv (lv1 := [(0, .ref (a 0)), (1, .int (nI wt))]) [1, 0] rfl ?_
    exact loop14 _ pl26 (cm + 1) wt27 nu62 ((upd fs cm x28)) fw29 Wn30 w16 hW17 (Nat.lt_succ_self _) ⟨v66, v67, v68, v69, v70, v71, v72, n73, n74, ⟨by omega, by omega, by omega, by omega, by omega, by omega, by omega⟩, ⟨by omega, by omega⟩, zb77, k78⟩ k21 k64 k65 hf34 (pend14 hf33).2.2 (by rw [(pend14 hf33).1]; exact hf36) (by rw [wgt_app, (pend14 hf33).2.1]; omega) (ag_upd (fun _ _ => rfl) (CI_le hci)) kp22
