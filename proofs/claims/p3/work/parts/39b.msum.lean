theorem wtop_n2 {fw : Nat → Int32} {W : WL} {n : Nat} (h : nOps W) (hwr : wR fw ([] ++ W) n) : wtop W = -1 ∨ ∃ op : Nat, 7 ≤ op ∧ op ≤ 14 ∧ wtop W = nI op := by
  cases W with
  | nil => exact Or.inl rfl
  | cons e W => exact Or.inr ⟨e.1, (nOps_hd h).1, hwr.2.2.1, rfl⟩
theorem nJ {e : Nat × Nat} (h : e.1 ≠ 11 ∧ e.1 ≠ 12) : ¬ isJ e := fun q => q.elim h.1 h.2
theorem os_yes {fw : Nat → Int32} {Ws W0 : WL} {n b k : Nat} (h0 : W0.length = b) (hwr : wR fw (Ws ++ W0) n) (h1 : b ≤ k) (h2 : k < n) (c : fw k / 1048576 = 14) : ∃ e ∈ Ws, e.1 = 14 := by
  obtain ⟨e, he, e1, e2, e3⟩ := (wR_at h0 hwr).1 k h1 h2
  rw [e1, divW e2 e3] at c
  exact ⟨e, he, (nI_eq (b := 14) (by omega) (by omega)).mp c⟩
theorem os_no {fw : Nat → Int32} {Ws W0 : WL} {n b : Nat} (h0 : W0.length = b) (hwr : wR fw (Ws ++ W0) n) (c : ∀ j, b ≤ j → j < n → ¬ fw j / 1048576 = 14) : ∀ e ∈ Ws, ¬ e.1 = 14 := by
  intro e he q
  obtain ⟨e2, e3, k, k1, k2, k3⟩ := (wR_at h0 hwr).2 e he
  refine c k k1 k2 ?_
  rw [k3, divW e2 e3, q]
  decide
theorem no14 {Ws Wd : WL} (h : Ws = Wd ++ []) (h6 : ∀ e ∈ Wd, e.1 ≤ 6) (hx : ∃ e ∈ Ws, e.1 = 14) : False := by
  obtain ⟨e, he, q⟩ := hx
  rw [h, List.append_nil] at he
  have := h6 e he
  omega
theorem all14 {Ws Wd W1 : WL} {e : Nat × Nat} (h : Ws = Wd ++ (e :: W1)) (hn : ∀ e ∈ Ws, ¬ e.1 = 14) (he : e.1 = 14) : False := hn e (by rw [h]; exact List.mem_append_right _ List.mem_cons_self) he
theorem asc3 {Wn We W : WL} {e : Nat × Nat} : (Wn ++ e :: We) ++ W = Wn ++ (e :: (We ++ W)) := by simp
theorem len_app {fw : Nat → Int32} {We W : WL} {n : Nat} (h : wR fw (We ++ W) n) : We.length + W.length = n := by
  have q := wR_len h
  rw [List.length_append] at q
  exact q
theorem st_no {fw : Nat → Int32} {b k : Nat} (h : ∀ j, b ≤ j → j < k → ¬ fw j / 1048576 = 14) (c : ¬ fw k / 1048576 = 14) : ∀ j, b ≤ j → j < k + 1 → ¬ fw j / 1048576 = 14 := by
  intro j h1 h2
  by_cases q : j = k
  · subst q; exact c
  · exact h j h1 (by omega)
theorem dX12_closesSums_0 : decode cX12_closesSums 0 = .ok (.aload_n 0, 1) := by decide +kernel
theorem dX12_closesSums_1 : decode cX12_closesSums 1 = .ok (.invokevirtual 164, 3) := by decide +kernel
theorem dX12_closesSums_4 : decode cX12_closesSums 4 = .ok (.iconst 4, 1) := by decide +kernel
theorem dX12_closesSums_5 : decode cX12_closesSums 5 = .ok (.if_icmp .lt 12, 3) := by decide +kernel
theorem dX12_closesSums_8 : decode cX12_closesSums 8 = .ok (.aload_n 0, 1) := by decide +kernel
theorem dX12_closesSums_9 : decode cX12_closesSums 9 = .ok (.invokevirtual 164, 3) := by decide +kernel
theorem dX12_closesSums_12 : decode cX12_closesSums 12 = .ok (.bipush 6, 2) := by decide +kernel
theorem dX12_closesSums_14 : decode cX12_closesSums 14 = .ok (.if_icmp .le 23, 3) := by decide +kernel
theorem dX12_closesSums_17 : decode cX12_closesSums 17 = .ok (.iload_n 1, 1) := by decide +kernel
theorem dX12_closesSums_18 : decode cX12_closesSums 18 = .ok (.ifCond .eq 41, 3) := by decide +kernel
theorem dX12_closesSums_37 : decode cX12_closesSums 37 = .ok (.aload_n 0, 1) := by decide +kernel
theorem dX12_closesSums_38 : decode cX12_closesSums 38 = .ok (.aload_n 0, 1) := by decide +kernel
theorem dX12_closesSums_39 : decode cX12_closesSums 39 = .ok (.invokevirtual 164, 3) := by decide +kernel
theorem dX12_closesSums_42 : decode cX12_closesSums 42 = .ok (.iconst 0, 1) := by decide +kernel
theorem dX12_closesSums_43 : decode cX12_closesSums 43 = .ok (.invokevirtual 167, 3) := by decide +kernel
theorem dX12_closesSums_46 : decode cX12_closesSums 46 = .ok (.aload_n 0, 1) := by decide +kernel
theorem dX12_closesSums_47 : decode cX12_closesSums 47 = .ok (.aload_n 0, 1) := by decide +kernel
theorem dX12_closesSums_48 : decode cX12_closesSums 48 = .ok (.getfield 161, 3) := by decide +kernel
theorem dX12_closesSums_51 : decode cX12_closesSums 51 = .ok (.iconst 1, 1) := by decide +kernel
theorem dX12_closesSums_52 : decode cX12_closesSums 52 = .ok (.isub, 1) := by decide +kernel
theorem dX12_closesSums_53 : decode cX12_closesSums 53 = .ok (.putfield 161, 3) := by decide +kernel
theorem dX12_closesSums_56 : decode cX12_closesSums 56 = .ok (.goto (-56), 3) := by decide +kernel
theorem dX12_closesSums_59 : decode cX12_closesSums 59 = .ok (.return_, 1) := by decide +kernel
set_option maxRecDepth 20000 in
set_option maxHeartbeats 4000000 in
theorem m_closesSums0 (E : xE) (l : Launch) (a : Nat → Nat) (cd : Cd) (hG : Good cd) (kf : Int32) (jn js jq : Lb) (ws : va_W) (hW : WX (okM E a cd kf jn js jq) ws) (tp pl le cm wt sm lm : Nat) (nu : Int32) (h0 : MO a cd kf ws tp pl le cm wt sm lm nu) (fs : Nat → Int32) (hfs : ws[5]? = some (iA E (a 5) 260 fs)) (fw : Nat → Int32) (hfw : ws[6]? = some (iA E (a 6) 260 fw)) (Ws W0 : WL) (hwr : wR fw (Ws ++ W0) wt) (hso : sOps Ws) (hno : nOps W0) (c0 h : Nat) (hci : CI fs c0 cm (h + 1 + pend Ws) (Ws ++ W0)) (hh : h ≤ 2) (hphi : cm + wgt (Ws ++ W0) ≤ 240) (hwt : wt ≤ 240) : xV E l yX12_closesSums cX12_closesSums 2 1 0 0 [.ref (a 0), .int 0] ws (fun w => WX (okM E a cd kf jn js jq) w ∧ keeps ws w (fun q => q = 0 ∨ q = 5) ∧ (∃ (cm2 wt2 : Nat) (fs2 : Nat → Int32) (Wd We : WL), Ws = Wd ++ We ∧ (∀ e ∈ Wd, e.1 ≤ 6) ∧ wR fw (We ++ W0) wt2 ∧ wt2 ≤ wt ∧ MO a cd kf w tp pl le cm2 wt2 sm lm nu ∧ w[5]? = some (iA E (a 5) 260 fs2) ∧ CI fs2 c0 cm2 (h + 1 + pend We) (We ++ W0) ∧ cm2 + wgt (We ++ W0) = cm + wgt (Ws ++ W0) ∧ (∀ k, k < c0 → fs2 k = fs k) ∧ sOps We)) := by
  refine xV_start (lv := [(0, .ref (a 0)), (1, .int 0)]) RX12 (by decide) rfl (Nat.le_of_ble_eq_true rfl) rfl (fun p e s m below meth c A C hr hlk hin => ?_)
  have kp0 : keeps ws ws (fun q => q = 0 ∨ q = 5) := keeps_rf
  obtain ⟨v1, v2, v3, v4, v5, v6, n7, n8, bo9, bo10, k11⟩ := h0
  have loop0 : ∀ (fu0 : Nat) (cx : Nat) (wx : Nat) (fx : Nat → Int32) (Wd : WL) (We : WL) (wl0 : va_W), WX (okM E a cd kf jn js jq) wl0 → We.length < fu0 → MO a cd kf wl0 tp pl le cx wx sm lm nu → wl0[5]? = some (iA E (a 5) 260 fx) → wl0[6]? = some (iA E (a 6) 260 fw) → Ws = Wd ++ We → (∀ e ∈ Wd, e.1 ≤ 6) → wR fw (We ++ W0) wx → CI fx c0 cx (h + 1 + pend We) (We ++ W0) → cx + wgt (We ++ W0) = cm + wgt (Ws ++ W0) ∧ wx ≤ wt → (∀ k, k < c0 → fx k = fs k) → sOps We → keeps ws wl0 (fun q => q = 0 ∨ q = 5) → X E p l e (xRm 1 0 0) s m ([.ref (a 0), .int 0] : List Value).toArray below meth c A 2 0 0 (MQ below (va_Qv (fun w => WX (okM E a cd kf jn js jq) w ∧ keeps ws w (fun q => q = 0 ∨ q = 5) ∧ (∃ (cm2 wt2 : Nat) (fs2 : Nat → Int32) (Wd We : WL), Ws = Wd ++ We ∧ (∀ e ∈ Wd, e.1 ≤ 6) ∧ wR fw (We ++ W0) wt2 ∧ wt2 ≤ wt ∧ MO a cd kf w tp pl le cm2 wt2 sm lm nu ∧ w[5]? = some (iA E (a 5) 260 fs2) ∧ CI fs2 c0 cm2 (h + 1 + pend We) (We ++ W0) ∧ cm2 + wgt (We ++ W0) = cm + wgt (Ws ++ W0) ∧ (∀ k, k < c0 → fs2 k = fs k) ∧ sOps We)) (xB E A) A) ([.ref (a 0), .int 0] : List Value).toArray s 0 0 A) wl0 0 [(0, .ref (a 0)), (1, .int 0)] [] := by
    intro fu0
    induction fu0 with
    | zero => intro cx wx fx Wd We wl0 _ q; omega
    | succ fu0 ih0 =>
      intro cx wx fx Wd We wl0 hWl0 me0 iv0_0 iv0_1 iv0_2 iv0_3 iv0_4 iv0_5 iv0_6 iv0_7 iv0_8 iv0_9 kq0
      obtain ⟨v12, v13, v14, v15, v16, v17, n18, n19, bo20, bo21, k22⟩ := iv0_0
      refine x_aload_n C dX12_closesSums_0 rfl 0 rfl rfl ?_
      rcases We with _ | ⟨e, W1⟩
      · rcases wtop_n2 hno iv0_5 with q | ⟨op, h7, h14, q⟩
        · skip
          refine x_vi C (As := []) (rest := []) (m_waitTop E l a cd hG kf jn js jq wl0 hWl0 tp pl le cx wx sm lm nu ⟨v12, v13, v14, v15, v16, v17, n18, n19, ⟨by omega, by omega, by omega, by omega, by omega, by omega, by omega⟩, ⟨by omega, by omega⟩, k22⟩ fw iv0_2 ([] ++ W0) iv0_5) mf_X12_waitTop w_1363 0 k22 rfl rfl rfl (Nat.le_of_ble_eq_true rfl) ⟨(Nat.le_of_ble_eq_true rfl), (Nat.le_of_ble_eq_true rfl)⟩ ⟨(Nat.le_of_ble_eq_true rfl), (Nat.le_of_ble_eq_true rfl)⟩ dX12_closesSums_1 rfl (fun r24 w25 h23 => ?_)
          obtain ⟨hW26, x27⟩ := h23
          refine x_ws hW26 ?_
          refine x_top (x27.trans (show wtop ([] ++ W0) = (-1) from q)) ?_
          refine x_iconst C (v := 4) dX12_closesSums_4 (by decide) rfl ?_
          refine x_icmp_lt C (tgt := 17) dX12_closesSums_5 (by decide) rfl (fun _ => ?_) (fun h => absurd h (by decide))
          refine x_iload_n C dX12_closesSums_17 rfl 1 rfl rfl ?_
          refine x_if_eq C (tgt := 59) dX12_closesSums_18 (by decide) rfl (fun _ => ?_) (fun h => absurd h (by decide))
          exact x_vret C hr hlk dX12_closesSums_59 ⟨hWl0, kq0, ⟨cx, wx, fx, Wd, [], iv0_3, iv0_4, iv0_5, by omega, ⟨v12, v13, v14, v15, v16, v17, n18, n19, ⟨by omega, by omega, by omega, by omega, by omega, by omega, by omega⟩, ⟨by omega, by omega⟩, k22⟩, iv0_1, iv0_6, iv0_7.1, iv0_8, iv0_9⟩⟩
        · skip
          refine x_vi C (As := []) (rest := []) (m_waitTop E l a cd hG kf jn js jq wl0 hWl0 tp pl le cx wx sm lm nu ⟨v12, v13, v14, v15, v16, v17, n18, n19, ⟨by omega, by omega, by omega, by omega, by omega, by omega, by omega⟩, ⟨by omega, by omega⟩, k22⟩ fw iv0_2 ([] ++ W0) iv0_5) mf_X12_waitTop w_1363 0 k22 rfl rfl rfl (Nat.le_of_ble_eq_true rfl) ⟨(Nat.le_of_ble_eq_true rfl), (Nat.le_of_ble_eq_true rfl)⟩ ⟨(Nat.le_of_ble_eq_true rfl), (Nat.le_of_ble_eq_true rfl)⟩ dX12_closesSums_1 rfl (fun r29 w30 h28 => ?_)
          obtain ⟨hW31, x32⟩ := h28
          refine x_ws hW31 ?_
          refine x_top (x32.trans (show wtop ([] ++ W0) = (nI op) from q)) ?_
          refine x_iconst C (v := 4) dX12_closesSums_4 (by decide) rfl ?_
          refine x_icmp_lt C (tgt := 17) dX12_closesSums_5 (by decide) rfl (fun c33 => ?_) (fun c33 => ?_)
          · skip
            have nf34 := nI_lt' (a := op) (b := 4) c33 (by omega) (by omega)
            refine x_iload_n C dX12_closesSums_17 rfl 1 rfl rfl ?_
            refine x_if_eq C (tgt := 59) dX12_closesSums_18 (by decide) rfl (fun _ => ?_) (fun h => absurd h (by decide))
            exact x_vret C hr hlk dX12_closesSums_59 ⟨hWl0, kq0, ⟨cx, wx, fx, Wd, [], iv0_3, iv0_4, iv0_5, by omega, ⟨v12, v13, v14, v15, v16, v17, n18, n19, ⟨by omega, by omega, by omega, by omega, by omega, by omega, by omega⟩, ⟨by omega, by omega⟩, k22⟩, iv0_1, iv0_6, iv0_7.1, iv0_8, iv0_9⟩⟩
          · skip
            have nf35 := nI_nlt' (a := op) (b := 4) c33 (by omega) (by omega)
            refine x_aload_n C dX12_closesSums_8 rfl 0 rfl rfl ?_
            refine x_vi C (As := []) (rest := []) (m_waitTop E l a cd hG kf jn js jq wl0 hWl0 tp pl le cx wx sm lm nu ⟨v12, v13, v14, v15, v16, v17, n18, n19, ⟨by omega, by omega, by omega, by omega, by omega, by omega, by omega⟩, ⟨by omega, by omega⟩, k22⟩ fw iv0_2 ([] ++ W0) iv0_5) mf_X12_waitTop w_1363 0 k22 rfl rfl rfl (Nat.le_of_ble_eq_true rfl) ⟨(Nat.le_of_ble_eq_true rfl), (Nat.le_of_ble_eq_true rfl)⟩ ⟨(Nat.le_of_ble_eq_true rfl), (Nat.le_of_ble_eq_true rfl)⟩ dX12_closesSums_9 rfl (fun r37 w38 h36 => ?_)
            obtain ⟨hW39, x40⟩ := h36
            refine x_ws hW39 ?_
            refine x_top (x40.trans (show wtop ([] ++ W0) = (nI op) from q)) ?_
            refine x_bipush C (v := 6) dX12_closesSums_12 (by decide) rfl ?_
            refine x_icmp_le C (tgt := 37) dX12_closesSums_14 (by decide) rfl (fun c41 => ?_) (fun c41 => ?_)
            · skip
              have nf42 := nI_le' (a := op) (b := 6) c41 (by omega) (by omega)
              exact False.elim (by omega)
            · skip
              have nf43 := nI_nle' (a := op) (b := 6) c41 (by omega) (by omega)
              refine x_iload_n C dX12_closesSums_17 rfl 1 rfl rfl ?_
              refine x_if_eq C (tgt := 59) dX12_closesSums_18 (by decide) rfl (fun _ => ?_) (fun h => absurd h (by decide))
              exact x_vret C hr hlk dX12_closesSums_59 ⟨hWl0, kq0, ⟨cx, wx, fx, Wd, [], iv0_3, iv0_4, iv0_5, by omega, ⟨v12, v13, v14, v15, v16, v17, n18, n19, ⟨by omega, by omega, by omega, by omega, by omega, by omega, by omega⟩, ⟨by omega, by omega⟩, k22⟩, iv0_1, iv0_6, iv0_7.1, iv0_8, iv0_9⟩⟩
      · have hs1 := (sOps_hd iv0_9).1
        have hw1 := iv0_5.1
        have hl1 : (e :: W1).length = W1.length + 1 := rfl
        refine x_vi C (As := []) (rest := []) (m_waitTop E l a cd hG kf jn js jq wl0 hWl0 tp pl le cx wx sm lm nu ⟨v12, v13, v14, v15, v16, v17, n18, n19, ⟨by omega, by omega, by omega, by omega, by omega, by omega, by omega⟩, ⟨by omega, by omega⟩, k22⟩ fw iv0_2 (e :: W1 ++ W0) iv0_5) mf_X12_waitTop w_1363 0 k22 rfl rfl rfl (Nat.le_of_ble_eq_true rfl) ⟨(Nat.le_of_ble_eq_true rfl), (Nat.le_of_ble_eq_true rfl)⟩ ⟨(Nat.le_of_ble_eq_true rfl), (Nat.le_of_ble_eq_true rfl)⟩ dX12_closesSums_1 rfl (fun r45 w46 h44 => ?_)
        obtain ⟨hW47, x48⟩ := h44
        refine x_ws hW47 ?_
        refine x_top (x48.trans (show wtop (e :: W1 ++ W0) = (nI (e.1)) from rfl)) ?_
        refine x_iconst C (v := 4) dX12_closesSums_4 (by decide) rfl ?_
        refine x_icmp_lt C (tgt := 17) dX12_closesSums_5 (by decide) rfl (fun c49 => ?_) (fun c49 => ?_)
        · skip
          have nf50 := nI_lt' (a := (e.1)) (b := 4) c49 (by omega) (by omega)
          refine x_iload_n C dX12_closesSums_17 rfl 1 rfl rfl ?_
          refine x_if_eq C (tgt := 59) dX12_closesSums_18 (by decide) rfl (fun _ => ?_) (fun h => absurd h (by decide))
          exact x_vret C hr hlk dX12_closesSums_59 ⟨hWl0, kq0, ⟨cx, wx, fx, Wd, (e :: W1), iv0_3, iv0_4, iv0_5, by omega, ⟨v12, v13, v14, v15, v16, v17, n18, n19, ⟨by omega, by omega, by omega, by omega, by omega, by omega, by omega⟩, ⟨by omega, by omega⟩, k22⟩, iv0_1, iv0_6, iv0_7.1, iv0_8, iv0_9⟩⟩
        · skip
          have nf51 := nI_nlt' (a := (e.1)) (b := 4) c49 (by omega) (by omega)
          refine x_aload_n C dX12_closesSums_8 rfl 0 rfl rfl ?_
          refine x_vi C (As := []) (rest := []) (m_waitTop E l a cd hG kf jn js jq wl0 hWl0 tp pl le cx wx sm lm nu ⟨v12, v13, v14, v15, v16, v17, n18, n19, ⟨by omega, by omega, by omega, by omega, by omega, by omega, by omega⟩, ⟨by omega, by omega⟩, k22⟩ fw iv0_2 (e :: W1 ++ W0) iv0_5) mf_X12_waitTop w_1363 0 k22 rfl rfl rfl (Nat.le_of_ble_eq_true rfl) ⟨(Nat.le_of_ble_eq_true rfl), (Nat.le_of_ble_eq_true rfl)⟩ ⟨(Nat.le_of_ble_eq_true rfl), (Nat.le_of_ble_eq_true rfl)⟩ dX12_closesSums_9 rfl (fun r53 w54 h52 => ?_)
          obtain ⟨hW55, x56⟩ := h52
          refine x_ws hW55 ?_
          refine x_top (x56.trans (show wtop (e :: W1 ++ W0) = (nI (e.1)) from rfl)) ?_
          refine x_bipush C (v := 6) dX12_closesSums_12 (by decide) rfl ?_
          refine x_icmp_le C (tgt := 37) dX12_closesSums_14 (by decide) rfl (fun c57 => ?_) (fun c57 => ?_)
          · skip
            have nf58 := nI_le' (a := (e.1)) (b := 6) c57 (by omega) (by omega)
            have h26 : 2 ≤ e.1 ∧ e.1 ≤ 6 := by omega
            have hpd : pend (e :: W1) = 1 + pend W1 := by show pd1 e.1 + pend W1 = _; rw [pd1_1 h26]
            have hwg : wgt (e :: W1 ++ W0) = 1 + wgt (W1 ++ W0) := by show wg1 e.1 + wgt (W1 ++ W0) = _; rw [wg1_1 (Or.inl h26)]
            have hpl2 := pend_len (W := W1)
            have hlen := len_app iv0_5
            have hcx := CI_le iv0_6
            refine x_aload_n C dX12_closesSums_37 rfl 0 rfl rfl ?_
            refine x_aload_n C dX12_closesSums_38 rfl 0 rfl rfl ?_
            refine x_vi C (As := []) (rest := [.ref (a 0)]) (m_waitTop E l a cd hG kf jn js jq wl0 hWl0 tp pl le cx wx sm lm nu ⟨v12, v13, v14, v15, v16, v17, n18, n19, ⟨by omega, by omega, by omega, by omega, by omega, by omega, by omega⟩, ⟨by omega, by omega⟩, k22⟩ fw iv0_2 (e :: W1 ++ W0) iv0_5) mf_X12_waitTop w_1363 0 k22 rfl rfl rfl (Nat.le_of_ble_eq_true rfl) ⟨(Nat.le_of_ble_eq_true rfl), (Nat.le_of_ble_eq_true rfl)⟩ ⟨(Nat.le_of_ble_eq_true rfl), (Nat.le_of_ble_eq_true rfl)⟩ dX12_closesSums_39 rfl (fun r60 w61 h59 => ?_)
            obtain ⟨hW62, x63⟩ := h59
            refine x_ws hW62 ?_
            refine x_top (x63.trans (show wtop (e :: W1 ++ W0) = (nI (e.1)) from rfl)) ?_
            refine x_iconst C (v := 0) dX12_closesSums_42 (by decide) rfl ?_
            refine x_vv C (As := [.int (nI (e.1)), .int 0]) (rest := []) (m_notes E l a cd hG kf jn js jq wl0 hWl0 (e.1) 0 (by omega) (by omega) tp pl le cx wx sm lm nu ⟨v12, v13, v14, v15, v16, v17, n18, n19, ⟨by omega, by omega, by omega, by omega, by omega, by omega, by omega⟩, ⟨by omega, by omega⟩, k22⟩ fx iv0_1 (by omega)) mf_X12_notes w_1349 0 k22 rfl rfl rfl (Nat.le_of_ble_eq_true rfl) ⟨(Nat.le_of_ble_eq_true rfl), (Nat.le_of_ble_eq_true rfl)⟩ ⟨(Nat.le_of_ble_eq_true rfl), (Nat.le_of_ble_eq_true rfl)⟩ dX12_closesSums_43 rfl (fun w66 h64 => ?_)
            obtain ⟨hW67, kq68, x69⟩ := h64
            have k70 : w66[6]? = some (iA E (a 6) 260 fw) := keeps_at kq68 iv0_2 (by first | decide | omega | (dsimp only; omega))
            have kp71 := keeps_tr kq0 kq68 (fun q hq => by first | omega | (dsimp only at *; omega))
            obtain ⟨mo72, k73⟩ := x69
            obtain ⟨v74, v75, v76, v77, v78, v79, n80, n81, bo82, bo83, k84⟩ := mo72
            refine x_aload_n C dX12_closesSums_46 rfl 0 rfl rfl ?_
            refine x_aload_n C dX12_closesSums_47 rfl 0 rfl rfl ?_
            refine x_get C (ci := 11) (k := 11) 0 k84 rfl in_X12 (by decide) w_1129 rfl dX12_closesSums_48 rfl ?_
            refine x_iconst C (v := 1) dX12_closesSums_51 (by decide) rfl ?_
            refine x_isub C (v := (nI (wx - 1))) dX12_closesSums_52 (pk_sub (a := wx) (b := 1) (by omega)) rfl ?_
            obtain ⟨w85, hw86⟩ : ∃ w : va_W, w = List.set w66 0 (ob (a 0) 11 [.ref (a 1), .ref (a 2), .ref (a 3), .ref (a 4), .int (nI tp), .int (nI pl), .int (nI le), .int v74, .int nu, .int v75, .int (nI (cx + 1)), .int (nI (wx - 1)), .int (nI sm), .int (nI (cd.2.2.2.2.2)), .ref (a 5), .ref (a 6), .ref (a 7), .ref (a 8), .ref (a 9), .ref (a 10), .ref (a 11), .ref (a 12), .ref (a 13), .ref (a 14), .ref (a 15), .ref (a 16), .ref (a 17), .int (nI lm), .ref (a 18), .ref (a 19), .ref (a 20), .ref (a 21), .int v76, .int v77, .int v78, .int v79, .int (nI n80), .int (nI n81), .ref (a 22), .ref (a 23), .ref (a 24), .ref (a 25), .ref (a 26), .ref (a 27), .ref (a 28), .ref (a 29), .ref (a 30), .int kf]) := ⟨_, rfl⟩
            refine x_put C (ci := 11) (k := 11) (ty := .int) 0 k84 rfl in_X12 tyX12 tyX12_ok nmX12 (by decide) w_1129 rfl rfl rfl rfl (Nat.le_of_ble_eq_true rfl) hw86.symm dX12_closesSums_53 rfl ?_
            have hW87 : WX (okM E a cd kf jn js jq) w85 := by rw [hw86]; exact hW67.set (k := 0) rfl ⟨tp, pl, le, v74, nu, v75, (cx + 1), (wx - 1), sm, lm, v76, v77, v78, v79, n80, n81, by omega, by omega, by omega, by omega, by omega, by omega, by omega, by omega, by omega, rfl⟩
            have k88 : w85[6]? = some (iA E (a 6) 260 fw) := by rw [hw86]; exact set_ne k70 (by decide)
            have k89 : w85[0]? = some (ob (a 0) 11 [.ref (a 1), .ref (a 2), .ref (a 3), .ref (a 4), .int (nI tp), .int (nI pl), .int (nI le), .int v74, .int nu, .int v75, .int (nI (cx + 1)), .int (nI (wx - 1)), .int (nI sm), .int (nI (cd.2.2.2.2.2)), .ref (a 5), .ref (a 6), .ref (a 7), .ref (a 8), .ref (a 9), .ref (a 10), .ref (a 11), .ref (a 12), .ref (a 13), .ref (a 14), .ref (a 15), .ref (a 16), .ref (a 17), .int (nI lm), .ref (a 18), .ref (a 19), .ref (a 20), .ref (a 21), .int v76, .int v77, .int v78, .int v79, .int (nI n80), .int (nI n81), .ref (a 22), .ref (a 23), .ref (a 24), .ref (a 25), .ref (a 26), .ref (a 27), .ref (a 28), .ref (a 29), .ref (a 30), .int kf]) := by rw [hw86]; exact set_eq k84
            have k90 : w85[5]? = some (iA E (a 5) 260 (upd fx cx (nI (1048576 * (e.1) + 0)))) := by rw [hw86]; exact set_ne k73 (by decide)
            have kp91 := keeps_set kp71 hw86 (by first | exact rfl | decide | omega | (dsimp only; omega))
            refine x_goto C (tgt := 0) dX12_closesSums_56 (by decide) ?_
            refine x_lv (lv1 := [(0, .ref (a 0)), (1, .int 0)]) [0, 1] rfl ?_
            exact ih0 (cx + 1) (wx - 1) ((upd fx cx (nI (1048576 * (e.1) + 0)))) (Wd ++ [e]) W1 w85 hW87 (by omega) ⟨v74, v75, v76, v77, v78, v79, n80, n81, ⟨by omega, by omega, by omega, by omega, by omega, by omega, by omega⟩, ⟨by omega, by omega⟩, k89⟩ k90 k88 (iv0_3.trans app_one) (d6_app iv0_4 (by omega)) iv0_5.2.2.2.2 (CI_pop (e := e) (CI_note (op := e.1) (v := 0) (h' := h + 1 + pend W1) iv0_6 (by omega) (by omega) (by omega) (Or.inr (Or.inr (Or.inr ⟨by omega, by omega, by omega, by omega⟩)))) (nJ ⟨by omega, by omega⟩)) (by omega) (ag_upd iv0_8 (by omega)) (sOps_hd iv0_9).2 kp91
          · skip
            have nf92 := nI_nle' (a := (e.1)) (b := 6) c57 (by omega) (by omega)
            refine x_iload_n C dX12_closesSums_17 rfl 1 rfl rfl ?_
            refine x_if_eq C (tgt := 59) dX12_closesSums_18 (by decide) rfl (fun _ => ?_) (fun h => absurd h (by decide))
            exact x_vret C hr hlk dX12_closesSums_59 ⟨hWl0, kq0, ⟨cx, wx, fx, Wd, (e :: W1), iv0_3, iv0_4, iv0_5, by omega, ⟨v12, v13, v14, v15, v16, v17, n18, n19, ⟨by omega, by omega, by omega, by omega, by omega, by omega, by omega⟩, ⟨by omega, by omega⟩, k22⟩, iv0_1, iv0_6, iv0_7.1, iv0_8, iv0_9⟩⟩
  refine x_lv (lv1 := [(0, .ref (a 0)), (1, .int 0)]) [0, 1] rfl ?_
  exact loop0 _ cm wt fs [] Ws ws hW (Nat.lt_succ_self _) ⟨v1, v2, v3, v4, v5, v6, n7, n8, ⟨by omega, by omega, by omega, by omega, by omega, by omega, by omega⟩, ⟨by omega, by omega⟩, k11⟩ hfs hfw rfl (fun z hz => absurd hz List.not_mem_nil) hwr hci ⟨rfl, Nat.le_refl _⟩ (fun _ _ => rfl) hso kp0
theorem dX12_closesSums_21 : decode cX12_closesSums 21 = .ok (.aload_n 0, 1) := by decide +kernel
theorem dX12_closesSums_22 : decode cX12_closesSums 22 = .ok (.invokevirtual 164, 3) := by decide +kernel
theorem dX12_closesSums_25 : decode cX12_closesSums 25 = .ok (.iconst 2, 1) := by decide +kernel
theorem dX12_closesSums_26 : decode cX12_closesSums 26 = .ok (.if_icmp .eq 11, 3) := by decide +kernel
theorem dX12_closesSums_29 : decode cX12_closesSums 29 = .ok (.aload_n 0, 1) := by decide +kernel
theorem dX12_closesSums_30 : decode cX12_closesSums 30 = .ok (.invokevirtual 164, 3) := by decide +kernel
theorem dX12_closesSums_33 : decode cX12_closesSums 33 = .ok (.iconst 3, 1) := by decide +kernel
theorem dX12_closesSums_34 : decode cX12_closesSums 34 = .ok (.if_icmp .ne 25, 3) := by decide +kernel
set_option maxRecDepth 20000 in
set_option maxHeartbeats 4000000 in
theorem m_closesSums1 (E : xE) (l : Launch) (a : Nat → Nat) (cd : Cd) (hG : Good cd) (kf : Int32) (jn js jq : Lb) (ws : va_W) (hW : WX (okM E a cd kf jn js jq) ws) (tp pl le cm wt sm lm : Nat) (nu : Int32) (h0 : MO a cd kf ws tp pl le cm wt sm lm nu) (fs : Nat → Int32) (hfs : ws[5]? = some (iA E (a 5) 260 fs)) (fw : Nat → Int32) (hfw : ws[6]? = some (iA E (a 6) 260 fw)) (Ws W0 : WL) (hwr : wR fw (Ws ++ W0) wt) (hso : sOps Ws) (hno : nOps W0) (c0 h : Nat) (hci : CI fs c0 cm (h + 1 + pend Ws) (Ws ++ W0)) (hh : h ≤ 2) (hphi : cm + wgt (Ws ++ W0) ≤ 240) (hwt : wt ≤ 240) : xV E l yX12_closesSums cX12_closesSums 2 1 0 0 [.ref (a 0), .int 1] ws (fun w => WX (okM E a cd kf jn js jq) w ∧ keeps ws w (fun q => q = 0 ∨ q = 5) ∧ (∃ (cm2 wt2 : Nat) (fs2 : Nat → Int32) (Wd We : WL), Ws = Wd ++ We ∧ (∀ e ∈ Wd, e.1 ≤ 6) ∧ wR fw (We ++ W0) wt2 ∧ wt2 ≤ wt ∧ MO a cd kf w tp pl le cm2 wt2 sm lm nu ∧ w[5]? = some (iA E (a 5) 260 fs2) ∧ CI fs2 c0 cm2 (h + 1 + pend We) (We ++ W0) ∧ cm2 + wgt (We ++ W0) = cm + wgt (Ws ++ W0) ∧ (∀ k, k < c0 → fs2 k = fs k) ∧ sOps We ∧ (We = [] ∨ ∃ (e : Nat × Nat) (W1 : WL), We = e :: W1 ∧ e.1 = 14))) := by
  refine xV_start (lv := [(0, .ref (a 0)), (1, .int 1)]) RX12 (by decide) rfl (Nat.le_of_ble_eq_true rfl) rfl (fun p e s m below meth c A C hr hlk hin => ?_)
  have kp0 : keeps ws ws (fun q => q = 0 ∨ q = 5) := keeps_rf
  obtain ⟨v1, v2, v3, v4, v5, v6, n7, n8, bo9, bo10, k11⟩ := h0
  have loop0 : ∀ (fu0 : Nat) (cx : Nat) (wx : Nat) (fx : Nat → Int32) (Wd : WL) (We : WL) (wl0 : va_W), WX (okM E a cd kf jn js jq) wl0 → We.length < fu0 → MO a cd kf wl0 tp pl le cx wx sm lm nu → wl0[5]? = some (iA E (a 5) 260 fx) → wl0[6]? = some (iA E (a 6) 260 fw) → Ws = Wd ++ We → (∀ e ∈ Wd, e.1 ≤ 6) → wR fw (We ++ W0) wx → CI fx c0 cx (h + 1 + pend We) (We ++ W0) → cx + wgt (We ++ W0) = cm + wgt (Ws ++ W0) ∧ wx ≤ wt → (∀ k, k < c0 → fx k = fs k) → sOps We → keeps ws wl0 (fun q => q = 0 ∨ q = 5) → X E p l e (xRm 1 0 0) s m ([.ref (a 0), .int 1] : List Value).toArray below meth c A 2 0 0 (MQ below (va_Qv (fun w => WX (okM E a cd kf jn js jq) w ∧ keeps ws w (fun q => q = 0 ∨ q = 5) ∧ (∃ (cm2 wt2 : Nat) (fs2 : Nat → Int32) (Wd We : WL), Ws = Wd ++ We ∧ (∀ e ∈ Wd, e.1 ≤ 6) ∧ wR fw (We ++ W0) wt2 ∧ wt2 ≤ wt ∧ MO a cd kf w tp pl le cm2 wt2 sm lm nu ∧ w[5]? = some (iA E (a 5) 260 fs2) ∧ CI fs2 c0 cm2 (h + 1 + pend We) (We ++ W0) ∧ cm2 + wgt (We ++ W0) = cm + wgt (Ws ++ W0) ∧ (∀ k, k < c0 → fs2 k = fs k) ∧ sOps We ∧ (We = [] ∨ ∃ (e : Nat × Nat) (W1 : WL), We = e :: W1 ∧ e.1 = 14))) (xB E A) A) ([.ref (a 0), .int 1] : List Value).toArray s 0 0 A) wl0 0 [(0, .ref (a 0)), (1, .int 1)] [] := by
    intro fu0
    induction fu0 with
    | zero => intro cx wx fx Wd We wl0 _ q; omega
    | succ fu0 ih0 =>
      intro cx wx fx Wd We wl0 hWl0 me0 iv0_0 iv0_1 iv0_2 iv0_3 iv0_4 iv0_5 iv0_6 iv0_7 iv0_8 iv0_9 kq0
      obtain ⟨v12, v13, v14, v15, v16, v17, n18, n19, bo20, bo21, k22⟩ := iv0_0
      refine x_aload_n C dX12_closesSums_0 rfl 0 rfl rfl ?_
      rcases We with _ | ⟨e, W1⟩
      · rcases wtop_n2 hno iv0_5 with q | ⟨op, h7, h14, q⟩
        · skip
          refine x_vi C (As := []) (rest := []) (m_waitTop E l a cd hG kf jn js jq wl0 hWl0 tp pl le cx wx sm lm nu ⟨v12, v13, v14, v15, v16, v17, n18, n19, ⟨by omega, by omega, by omega, by omega, by omega, by omega, by omega⟩, ⟨by omega, by omega⟩, k22⟩ fw iv0_2 ([] ++ W0) iv0_5) mf_X12_waitTop w_1363 0 k22 rfl rfl rfl (Nat.le_of_ble_eq_true rfl) ⟨(Nat.le_of_ble_eq_true rfl), (Nat.le_of_ble_eq_true rfl)⟩ ⟨(Nat.le_of_ble_eq_true rfl), (Nat.le_of_ble_eq_true rfl)⟩ dX12_closesSums_1 rfl (fun r24 w25 h23 => ?_)
          obtain ⟨hW26, x27⟩ := h23
          refine x_ws hW26 ?_
          refine x_top (x27.trans (show wtop ([] ++ W0) = (-1) from q)) ?_
          refine x_iconst C (v := 4) dX12_closesSums_4 (by decide) rfl ?_
          refine x_icmp_lt C (tgt := 17) dX12_closesSums_5 (by decide) rfl (fun _ => ?_) (fun h => absurd h (by decide))
          refine x_iload_n C dX12_closesSums_17 rfl 1 rfl rfl ?_
          refine x_if_eq C (tgt := 59) dX12_closesSums_18 (by decide) rfl (fun h => absurd h (by decide)) (fun _ => ?_)
          refine x_aload_n C dX12_closesSums_21 rfl 0 rfl rfl ?_
          refine x_vi C (As := []) (rest := []) (m_waitTop E l a cd hG kf jn js jq wl0 hWl0 tp pl le cx wx sm lm nu ⟨v12, v13, v14, v15, v16, v17, n18, n19, ⟨by omega, by omega, by omega, by omega, by omega, by omega, by omega⟩, ⟨by omega, by omega⟩, k22⟩ fw iv0_2 ([] ++ W0) iv0_5) mf_X12_waitTop w_1363 0 k22 rfl rfl rfl (Nat.le_of_ble_eq_true rfl) ⟨(Nat.le_of_ble_eq_true rfl), (Nat.le_of_ble_eq_true rfl)⟩ ⟨(Nat.le_of_ble_eq_true rfl), (Nat.le_of_ble_eq_true rfl)⟩ dX12_closesSums_22 rfl (fun r29 w30 h28 => ?_)
          obtain ⟨hW31, x32⟩ := h28
          refine x_ws hW31 ?_
          refine x_top (x32.trans (show wtop ([] ++ W0) = (-1) from q)) ?_
          refine x_iconst C (v := 2) dX12_closesSums_25 (by decide) rfl ?_
          refine x_icmp_eq C (tgt := 37) dX12_closesSums_26 (by decide) rfl (fun h => absurd h (by decide)) (fun _ => ?_)
          refine x_aload_n C dX12_closesSums_29 rfl 0 rfl rfl ?_
          refine x_vi C (As := []) (rest := []) (m_waitTop E l a cd hG kf jn js jq wl0 hWl0 tp pl le cx wx sm lm nu ⟨v12, v13, v14, v15, v16, v17, n18, n19, ⟨by omega, by omega, by omega, by omega, by omega, by omega, by omega⟩, ⟨by omega, by omega⟩, k22⟩ fw iv0_2 ([] ++ W0) iv0_5) mf_X12_waitTop w_1363 0 k22 rfl rfl rfl (Nat.le_of_ble_eq_true rfl) ⟨(Nat.le_of_ble_eq_true rfl), (Nat.le_of_ble_eq_true rfl)⟩ ⟨(Nat.le_of_ble_eq_true rfl), (Nat.le_of_ble_eq_true rfl)⟩ dX12_closesSums_30 rfl (fun r34 w35 h33 => ?_)
          obtain ⟨hW36, x37⟩ := h33
          refine x_ws hW36 ?_
          refine x_top (x37.trans (show wtop ([] ++ W0) = (-1) from q)) ?_
          refine x_iconst C (v := 3) dX12_closesSums_33 (by decide) rfl ?_
          refine x_icmp_ne C (tgt := 59) dX12_closesSums_34 (by decide) rfl (fun _ => ?_) (fun h => absurd h (by decide))
          exact x_vret C hr hlk dX12_closesSums_59 ⟨hWl0, kq0, ⟨cx, wx, fx, Wd, [], iv0_3, iv0_4, iv0_5, by omega, ⟨v12, v13, v14, v15, v16, v17, n18, n19, ⟨by omega, by omega, by omega, by omega, by omega, by omega, by omega⟩, ⟨by omega, by omega⟩, k22⟩, iv0_1, iv0_6, iv0_7.1, iv0_8, iv0_9, Or.inl rfl⟩⟩
        · skip
          refine x_vi C (As := []) (rest := []) (m_waitTop E l a cd hG kf jn js jq wl0 hWl0 tp pl le cx wx sm lm nu ⟨v12, v13, v14, v15, v16, v17, n18, n19, ⟨by omega, by omega, by omega, by omega, by omega, by omega, by omega⟩, ⟨by omega, by omega⟩, k22⟩ fw iv0_2 ([] ++ W0) iv0_5) mf_X12_waitTop w_1363 0 k22 rfl rfl rfl (Nat.le_of_ble_eq_true rfl) ⟨(Nat.le_of_ble_eq_true rfl), (Nat.le_of_ble_eq_true rfl)⟩ ⟨(Nat.le_of_ble_eq_true rfl), (Nat.le_of_ble_eq_true rfl)⟩ dX12_closesSums_1 rfl (fun r39 w40 h38 => ?_)
          obtain ⟨hW41, x42⟩ := h38
          refine x_ws hW41 ?_
          refine x_top (x42.trans (show wtop ([] ++ W0) = (nI op) from q)) ?_
          refine x_iconst C (v := 4) dX12_closesSums_4 (by decide) rfl ?_
          refine x_icmp_lt C (tgt := 17) dX12_closesSums_5 (by decide) rfl (fun c43 => ?_) (fun c43 => ?_)
          · skip
            have nf44 := nI_lt' (a := op) (b := 4) c43 (by omega) (by omega)
            refine x_iload_n C dX12_closesSums_17 rfl 1 rfl rfl ?_
            refine x_if_eq C (tgt := 59) dX12_closesSums_18 (by decide) rfl (fun h => absurd h (by decide)) (fun _ => ?_)
            refine x_aload_n C dX12_closesSums_21 rfl 0 rfl rfl ?_
            refine x_vi C (As := []) (rest := []) (m_waitTop E l a cd hG kf jn js jq wl0 hWl0 tp pl le cx wx sm lm nu ⟨v12, v13, v14, v15, v16, v17, n18, n19, ⟨by omega, by omega, by omega, by omega, by omega, by omega, by omega⟩, ⟨by omega, by omega⟩, k22⟩ fw iv0_2 ([] ++ W0) iv0_5) mf_X12_waitTop w_1363 0 k22 rfl rfl rfl (Nat.le_of_ble_eq_true rfl) ⟨(Nat.le_of_ble_eq_true rfl), (Nat.le_of_ble_eq_true rfl)⟩ ⟨(Nat.le_of_ble_eq_true rfl), (Nat.le_of_ble_eq_true rfl)⟩ dX12_closesSums_22 rfl (fun r46 w47 h45 => ?_)
            obtain ⟨hW48, x49⟩ := h45
            refine x_ws hW48 ?_
            refine x_top (x49.trans (show wtop ([] ++ W0) = (nI op) from q)) ?_
            refine x_iconst C (v := 2) dX12_closesSums_25 (by decide) rfl ?_
            refine x_icmp_eq C (tgt := 37) dX12_closesSums_26 (by decide) rfl (fun c50 => ?_) (fun c50 => ?_)
            · skip
              have nf51 : op = 2 := (nI_eq (by omega) (by omega)).mp c50
              exact False.elim (by omega)
            · skip
              have nf52 : ¬ op = 2 := fun q => c50 (congrArg nI q)
              refine x_aload_n C dX12_closesSums_29 rfl 0 rfl rfl ?_
              refine x_vi C (As := []) (rest := []) (m_waitTop E l a cd hG kf jn js jq wl0 hWl0 tp pl le cx wx sm lm nu ⟨v12, v13, v14, v15, v16, v17, n18, n19, ⟨by omega, by omega, by omega, by omega, by omega, by omega, by omega⟩, ⟨by omega, by omega⟩, k22⟩ fw iv0_2 ([] ++ W0) iv0_5) mf_X12_waitTop w_1363 0 k22 rfl rfl rfl (Nat.le_of_ble_eq_true rfl) ⟨(Nat.le_of_ble_eq_true rfl), (Nat.le_of_ble_eq_true rfl)⟩ ⟨(Nat.le_of_ble_eq_true rfl), (Nat.le_of_ble_eq_true rfl)⟩ dX12_closesSums_30 rfl (fun r54 w55 h53 => ?_)
              obtain ⟨hW56, x57⟩ := h53
              refine x_ws hW56 ?_
              refine x_top (x57.trans (show wtop ([] ++ W0) = (nI op) from q)) ?_
              refine x_iconst C (v := 3) dX12_closesSums_33 (by decide) rfl ?_
              refine x_icmp_ne C (tgt := 59) dX12_closesSums_34 (by decide) rfl (fun c58 => ?_) (fun c58 => ?_)
              · skip
                have nf59 : ¬ op = 3 := fun q => c58 (congrArg nI q)
                exact x_vret C hr hlk dX12_closesSums_59 ⟨hWl0, kq0, ⟨cx, wx, fx, Wd, [], iv0_3, iv0_4, iv0_5, by omega, ⟨v12, v13, v14, v15, v16, v17, n18, n19, ⟨by omega, by omega, by omega, by omega, by omega, by omega, by omega⟩, ⟨by omega, by omega⟩, k22⟩, iv0_1, iv0_6, iv0_7.1, iv0_8, iv0_9, Or.inl rfl⟩⟩
              · skip
                have nf60 : op = 3 := (nI_eq (by omega) (by omega)).mp c58
                exact False.elim (by omega)
          · skip
            have nf61 := nI_nlt' (a := op) (b := 4) c43 (by omega) (by omega)
            refine x_aload_n C dX12_closesSums_8 rfl 0 rfl rfl ?_
            refine x_vi C (As := []) (rest := []) (m_waitTop E l a cd hG kf jn js jq wl0 hWl0 tp pl le cx wx sm lm nu ⟨v12, v13, v14, v15, v16, v17, n18, n19, ⟨by omega, by omega, by omega, by omega, by omega, by omega, by omega⟩, ⟨by omega, by omega⟩, k22⟩ fw iv0_2 ([] ++ W0) iv0_5) mf_X12_waitTop w_1363 0 k22 rfl rfl rfl (Nat.le_of_ble_eq_true rfl) ⟨(Nat.le_of_ble_eq_true rfl), (Nat.le_of_ble_eq_true rfl)⟩ ⟨(Nat.le_of_ble_eq_true rfl), (Nat.le_of_ble_eq_true rfl)⟩ dX12_closesSums_9 rfl (fun r63 w64 h62 => ?_)
            obtain ⟨hW65, x66⟩ := h62
            refine x_ws hW65 ?_
            refine x_top (x66.trans (show wtop ([] ++ W0) = (nI op) from q)) ?_
            refine x_bipush C (v := 6) dX12_closesSums_12 (by decide) rfl ?_
            refine x_icmp_le C (tgt := 37) dX12_closesSums_14 (by decide) rfl (fun c67 => ?_) (fun c67 => ?_)
            · skip
              have nf68 := nI_le' (a := op) (b := 6) c67 (by omega) (by omega)
              exact False.elim (by omega)
            · skip
              have nf69 := nI_nle' (a := op) (b := 6) c67 (by omega) (by omega)
              refine x_iload_n C dX12_closesSums_17 rfl 1 rfl rfl ?_
              refine x_if_eq C (tgt := 59) dX12_closesSums_18 (by decide) rfl (fun h => absurd h (by decide)) (fun _ => ?_)
              refine x_aload_n C dX12_closesSums_21 rfl 0 rfl rfl ?_
              refine x_vi C (As := []) (rest := []) (m_waitTop E l a cd hG kf jn js jq wl0 hWl0 tp pl le cx wx sm lm nu ⟨v12, v13, v14, v15, v16, v17, n18, n19, ⟨by omega, by omega, by omega, by omega, by omega, by omega, by omega⟩, ⟨by omega, by omega⟩, k22⟩ fw iv0_2 ([] ++ W0) iv0_5) mf_X12_waitTop w_1363 0 k22 rfl rfl rfl (Nat.le_of_ble_eq_true rfl) ⟨(Nat.le_of_ble_eq_true rfl), (Nat.le_of_ble_eq_true rfl)⟩ ⟨(Nat.le_of_ble_eq_true rfl), (Nat.le_of_ble_eq_true rfl)⟩ dX12_closesSums_22 rfl (fun r71 w72 h70 => ?_)
              obtain ⟨hW73, x74⟩ := h70
              refine x_ws hW73 ?_
              refine x_top (x74.trans (show wtop ([] ++ W0) = (nI op) from q)) ?_
              refine x_iconst C (v := 2) dX12_closesSums_25 (by decide) rfl ?_
              refine x_icmp_eq C (tgt := 37) dX12_closesSums_26 (by decide) rfl (fun c75 => ?_) (fun c75 => ?_)
              · skip
                have nf76 : op = 2 := (nI_eq (by omega) (by omega)).mp c75
                exact False.elim (by omega)
              · skip
                have nf77 : ¬ op = 2 := fun q => c75 (congrArg nI q)
                refine x_aload_n C dX12_closesSums_29 rfl 0 rfl rfl ?_
                refine x_vi C (As := []) (rest := []) (m_waitTop E l a cd hG kf jn js jq wl0 hWl0 tp pl le cx wx sm lm nu ⟨v12, v13, v14, v15, v16, v17, n18, n19, ⟨by omega, by omega, by omega, by omega, by omega, by omega, by omega⟩, ⟨by omega, by omega⟩, k22⟩ fw iv0_2 ([] ++ W0) iv0_5) mf_X12_waitTop w_1363 0 k22 rfl rfl rfl (Nat.le_of_ble_eq_true rfl) ⟨(Nat.le_of_ble_eq_true rfl), (Nat.le_of_ble_eq_true rfl)⟩ ⟨(Nat.le_of_ble_eq_true rfl), (Nat.le_of_ble_eq_true rfl)⟩ dX12_closesSums_30 rfl (fun r79 w80 h78 => ?_)
                obtain ⟨hW81, x82⟩ := h78
                refine x_ws hW81 ?_
                refine x_top (x82.trans (show wtop ([] ++ W0) = (nI op) from q)) ?_
                refine x_iconst C (v := 3) dX12_closesSums_33 (by decide) rfl ?_
                refine x_icmp_ne C (tgt := 59) dX12_closesSums_34 (by decide) rfl (fun c83 => ?_) (fun c83 => ?_)
                · skip
                  have nf84 : ¬ op = 3 := fun q => c83 (congrArg nI q)
                  exact x_vret C hr hlk dX12_closesSums_59 ⟨hWl0, kq0, ⟨cx, wx, fx, Wd, [], iv0_3, iv0_4, iv0_5, by omega, ⟨v12, v13, v14, v15, v16, v17, n18, n19, ⟨by omega, by omega, by omega, by omega, by omega, by omega, by omega⟩, ⟨by omega, by omega⟩, k22⟩, iv0_1, iv0_6, iv0_7.1, iv0_8, iv0_9, Or.inl rfl⟩⟩
                · skip
                  have nf85 : op = 3 := (nI_eq (by omega) (by omega)).mp c83
                  exact False.elim (by omega)
      · have hs1 := (sOps_hd iv0_9).1
        have hw1 := iv0_5.1
        have hl1 : (e :: W1).length = W1.length + 1 := rfl
        refine x_vi C (As := []) (rest := []) (m_waitTop E l a cd hG kf jn js jq wl0 hWl0 tp pl le cx wx sm lm nu ⟨v12, v13, v14, v15, v16, v17, n18, n19, ⟨by omega, by omega, by omega, by omega, by omega, by omega, by omega⟩, ⟨by omega, by omega⟩, k22⟩ fw iv0_2 (e :: W1 ++ W0) iv0_5) mf_X12_waitTop w_1363 0 k22 rfl rfl rfl (Nat.le_of_ble_eq_true rfl) ⟨(Nat.le_of_ble_eq_true rfl), (Nat.le_of_ble_eq_true rfl)⟩ ⟨(Nat.le_of_ble_eq_true rfl), (Nat.le_of_ble_eq_true rfl)⟩ dX12_closesSums_1 rfl (fun r87 w88 h86 => ?_)
        obtain ⟨hW89, x90⟩ := h86
        refine x_ws hW89 ?_
        refine x_top (x90.trans (show wtop (e :: W1 ++ W0) = (nI (e.1)) from rfl)) ?_
        refine x_iconst C (v := 4) dX12_closesSums_4 (by decide) rfl ?_
        refine x_icmp_lt C (tgt := 17) dX12_closesSums_5 (by decide) rfl (fun c91 => ?_) (fun c91 => ?_)
        · skip
          have nf92 := nI_lt' (a := (e.1)) (b := 4) c91 (by omega) (by omega)
          refine x_iload_n C dX12_closesSums_17 rfl 1 rfl rfl ?_
          refine x_if_eq C (tgt := 59) dX12_closesSums_18 (by decide) rfl (fun h => absurd h (by decide)) (fun _ => ?_)
          refine x_aload_n C dX12_closesSums_21 rfl 0 rfl rfl ?_
          refine x_vi C (As := []) (rest := []) (m_waitTop E l a cd hG kf jn js jq wl0 hWl0 tp pl le cx wx sm lm nu ⟨v12, v13, v14, v15, v16, v17, n18, n19, ⟨by omega, by omega, by omega, by omega, by omega, by omega, by omega⟩, ⟨by omega, by omega⟩, k22⟩ fw iv0_2 (e :: W1 ++ W0) iv0_5) mf_X12_waitTop w_1363 0 k22 rfl rfl rfl (Nat.le_of_ble_eq_true rfl) ⟨(Nat.le_of_ble_eq_true rfl), (Nat.le_of_ble_eq_true rfl)⟩ ⟨(Nat.le_of_ble_eq_true rfl), (Nat.le_of_ble_eq_true rfl)⟩ dX12_closesSums_22 rfl (fun r94 w95 h93 => ?_)
          obtain ⟨hW96, x97⟩ := h93
          refine x_ws hW96 ?_
          refine x_top (x97.trans (show wtop (e :: W1 ++ W0) = (nI (e.1)) from rfl)) ?_
          refine x_iconst C (v := 2) dX12_closesSums_25 (by decide) rfl ?_
          refine x_icmp_eq C (tgt := 37) dX12_closesSums_26 (by decide) rfl (fun c98 => ?_) (fun c98 => ?_)
          · skip
            have nf99 : e.1 = 2 := (nI_eq (by omega) (by omega)).mp c98
            have h26 : 2 ≤ e.1 ∧ e.1 ≤ 6 := by omega
            have hpd : pend (e :: W1) = 1 + pend W1 := by show pd1 e.1 + pend W1 = _; rw [pd1_1 h26]
            have hwg : wgt (e :: W1 ++ W0) = 1 + wgt (W1 ++ W0) := by show wg1 e.1 + wgt (W1 ++ W0) = _; rw [wg1_1 (Or.inl h26)]
            have hpl2 := pend_len (W := W1)
            have hlen := len_app iv0_5
            have hcx := CI_le iv0_6
            refine x_aload_n C dX12_closesSums_37 rfl 0 rfl rfl ?_
            refine x_aload_n C dX12_closesSums_38 rfl 0 rfl rfl ?_
            refine x_vi C (As := []) (rest := [.ref (a 0)]) (m_waitTop E l a cd hG kf jn js jq wl0 hWl0 tp pl le cx wx sm lm nu ⟨v12, v13, v14, v15, v16, v17, n18, n19, ⟨by omega, by omega, by omega, by omega, by omega, by omega, by omega⟩, ⟨by omega, by omega⟩, k22⟩ fw iv0_2 (e :: W1 ++ W0) iv0_5) mf_X12_waitTop w_1363 0 k22 rfl rfl rfl (Nat.le_of_ble_eq_true rfl) ⟨(Nat.le_of_ble_eq_true rfl), (Nat.le_of_ble_eq_true rfl)⟩ ⟨(Nat.le_of_ble_eq_true rfl), (Nat.le_of_ble_eq_true rfl)⟩ dX12_closesSums_39 rfl (fun r101 w102 h100 => ?_)
            obtain ⟨hW103, x104⟩ := h100
            refine x_ws hW103 ?_
            refine x_top (x104.trans (show wtop (e :: W1 ++ W0) = (nI (e.1)) from rfl)) ?_
            refine x_iconst C (v := 0) dX12_closesSums_42 (by decide) rfl ?_
            refine x_vv C (As := [.int (nI (e.1)), .int 0]) (rest := []) (m_notes E l a cd hG kf jn js jq wl0 hWl0 (e.1) 0 (by omega) (by omega) tp pl le cx wx sm lm nu ⟨v12, v13, v14, v15, v16, v17, n18, n19, ⟨by omega, by omega, by omega, by omega, by omega, by omega, by omega⟩, ⟨by omega, by omega⟩, k22⟩ fx iv0_1 (by omega)) mf_X12_notes w_1349 0 k22 rfl rfl rfl (Nat.le_of_ble_eq_true rfl) ⟨(Nat.le_of_ble_eq_true rfl), (Nat.le_of_ble_eq_true rfl)⟩ ⟨(Nat.le_of_ble_eq_true rfl), (Nat.le_of_ble_eq_true rfl)⟩ dX12_closesSums_43 rfl (fun w107 h105 => ?_)
            obtain ⟨hW108, kq109, x110⟩ := h105
            have k111 : w107[6]? = some (iA E (a 6) 260 fw) := keeps_at kq109 iv0_2 (by first | decide | omega | (dsimp only; omega))
            have kp112 := keeps_tr kq0 kq109 (fun q hq => by first | omega | (dsimp only at *; omega))
            obtain ⟨mo113, k114⟩ := x110
            obtain ⟨v115, v116, v117, v118, v119, v120, n121, n122, bo123, bo124, k125⟩ := mo113
            refine x_aload_n C dX12_closesSums_46 rfl 0 rfl rfl ?_
            refine x_aload_n C dX12_closesSums_47 rfl 0 rfl rfl ?_
            refine x_get C (ci := 11) (k := 11) 0 k125 rfl in_X12 (by decide) w_1129 rfl dX12_closesSums_48 rfl ?_
            refine x_iconst C (v := 1) dX12_closesSums_51 (by decide) rfl ?_
            refine x_isub C (v := (nI (wx - 1))) dX12_closesSums_52 (pk_sub (a := wx) (b := 1) (by omega)) rfl ?_
            obtain ⟨w126, hw127⟩ : ∃ w : va_W, w = List.set w107 0 (ob (a 0) 11 [.ref (a 1), .ref (a 2), .ref (a 3), .ref (a 4), .int (nI tp), .int (nI pl), .int (nI le), .int v115, .int nu, .int v116, .int (nI (cx + 1)), .int (nI (wx - 1)), .int (nI sm), .int (nI (cd.2.2.2.2.2)), .ref (a 5), .ref (a 6), .ref (a 7), .ref (a 8), .ref (a 9), .ref (a 10), .ref (a 11), .ref (a 12), .ref (a 13), .ref (a 14), .ref (a 15), .ref (a 16), .ref (a 17), .int (nI lm), .ref (a 18), .ref (a 19), .ref (a 20), .ref (a 21), .int v117, .int v118, .int v119, .int v120, .int (nI n121), .int (nI n122), .ref (a 22), .ref (a 23), .ref (a 24), .ref (a 25), .ref (a 26), .ref (a 27), .ref (a 28), .ref (a 29), .ref (a 30), .int kf]) := ⟨_, rfl⟩
            refine x_put C (ci := 11) (k := 11) (ty := .int) 0 k125 rfl in_X12 tyX12 tyX12_ok nmX12 (by decide) w_1129 rfl rfl rfl rfl (Nat.le_of_ble_eq_true rfl) hw127.symm dX12_closesSums_53 rfl ?_
            have hW128 : WX (okM E a cd kf jn js jq) w126 := by rw [hw127]; exact hW108.set (k := 0) rfl ⟨tp, pl, le, v115, nu, v116, (cx + 1), (wx - 1), sm, lm, v117, v118, v119, v120, n121, n122, by omega, by omega, by omega, by omega, by omega, by omega, by omega, by omega, by omega, rfl⟩
            have k129 : w126[6]? = some (iA E (a 6) 260 fw) := by rw [hw127]; exact set_ne k111 (by decide)
            have k130 : w126[0]? = some (ob (a 0) 11 [.ref (a 1), .ref (a 2), .ref (a 3), .ref (a 4), .int (nI tp), .int (nI pl), .int (nI le), .int v115, .int nu, .int v116, .int (nI (cx + 1)), .int (nI (wx - 1)), .int (nI sm), .int (nI (cd.2.2.2.2.2)), .ref (a 5), .ref (a 6), .ref (a 7), .ref (a 8), .ref (a 9), .ref (a 10), .ref (a 11), .ref (a 12), .ref (a 13), .ref (a 14), .ref (a 15), .ref (a 16), .ref (a 17), .int (nI lm), .ref (a 18), .ref (a 19), .ref (a 20), .ref (a 21), .int v117, .int v118, .int v119, .int v120, .int (nI n121), .int (nI n122), .ref (a 22), .ref (a 23), .ref (a 24), .ref (a 25), .ref (a 26), .ref (a 27), .ref (a 28), .ref (a 29), .ref (a 30), .int kf]) := by rw [hw127]; exact set_eq k125
            have k131 : w126[5]? = some (iA E (a 5) 260 (upd fx cx (nI (1048576 * (e.1) + 0)))) := by rw [hw127]; exact set_ne k114 (by decide)
            have kp132 := keeps_set kp112 hw127 (by first | exact rfl | decide | omega | (dsimp only; omega))
            refine x_goto C (tgt := 0) dX12_closesSums_56 (by decide) ?_
            refine x_lv (lv1 := [(0, .ref (a 0)), (1, .int 1)]) [0, 1] rfl ?_
            exact ih0 (cx + 1) (wx - 1) ((upd fx cx (nI (1048576 * (e.1) + 0)))) (Wd ++ [e]) W1 w126 hW128 (by omega) ⟨v115, v116, v117, v118, v119, v120, n121, n122, ⟨by omega, by omega, by omega, by omega, by omega, by omega, by omega⟩, ⟨by omega, by omega⟩, k130⟩ k131 k129 (iv0_3.trans app_one) (d6_app iv0_4 (by omega)) iv0_5.2.2.2.2 (CI_pop (e := e) (CI_note (op := e.1) (v := 0) (h' := h + 1 + pend W1) iv0_6 (by omega) (by omega) (by omega) (Or.inr (Or.inr (Or.inr ⟨by omega, by omega, by omega, by omega⟩)))) (nJ ⟨by omega, by omega⟩)) (by omega) (ag_upd iv0_8 (by omega)) (sOps_hd iv0_9).2 kp132
          · skip
            have nf133 : ¬ e.1 = 2 := fun q => c98 (congrArg nI q)
            refine x_aload_n C dX12_closesSums_29 rfl 0 rfl rfl ?_
            refine x_vi C (As := []) (rest := []) (m_waitTop E l a cd hG kf jn js jq wl0 hWl0 tp pl le cx wx sm lm nu ⟨v12, v13, v14, v15, v16, v17, n18, n19, ⟨by omega, by omega, by omega, by omega, by omega, by omega, by omega⟩, ⟨by omega, by omega⟩, k22⟩ fw iv0_2 (e :: W1 ++ W0) iv0_5) mf_X12_waitTop w_1363 0 k22 rfl rfl rfl (Nat.le_of_ble_eq_true rfl) ⟨(Nat.le_of_ble_eq_true rfl), (Nat.le_of_ble_eq_true rfl)⟩ ⟨(Nat.le_of_ble_eq_true rfl), (Nat.le_of_ble_eq_true rfl)⟩ dX12_closesSums_30 rfl (fun r135 w136 h134 => ?_)
            obtain ⟨hW137, x138⟩ := h134
            refine x_ws hW137 ?_
            refine x_top (x138.trans (show wtop (e :: W1 ++ W0) = (nI (e.1)) from rfl)) ?_
            refine x_iconst C (v := 3) dX12_closesSums_33 (by decide) rfl ?_
            refine x_icmp_ne C (tgt := 59) dX12_closesSums_34 (by decide) rfl (fun c139 => ?_) (fun c139 => ?_)
            · skip
              have nf140 : ¬ e.1 = 3 := fun q => c139 (congrArg nI q)
              exact x_vret C hr hlk dX12_closesSums_59 ⟨hWl0, kq0, ⟨cx, wx, fx, Wd, (e :: W1), iv0_3, iv0_4, iv0_5, by omega, ⟨v12, v13, v14, v15, v16, v17, n18, n19, ⟨by omega, by omega, by omega, by omega, by omega, by omega, by omega⟩, ⟨by omega, by omega⟩, k22⟩, iv0_1, iv0_6, iv0_7.1, iv0_8, iv0_9, Or.inr ⟨e, W1, rfl, by omega⟩⟩⟩
            · skip
              have nf141 : e.1 = 3 := (nI_eq (by omega) (by omega)).mp c139
              have h26 : 2 ≤ e.1 ∧ e.1 ≤ 6 := by omega
              have hpd : pend (e :: W1) = 1 + pend W1 := by show pd1 e.1 + pend W1 = _; rw [pd1_1 h26]
              have hwg : wgt (e :: W1 ++ W0) = 1 + wgt (W1 ++ W0) := by show wg1 e.1 + wgt (W1 ++ W0) = _; rw [wg1_1 (Or.inl h26)]
              have hpl2 := pend_len (W := W1)
              have hlen := len_app iv0_5
              have hcx := CI_le iv0_6
              refine x_aload_n C dX12_closesSums_37 rfl 0 rfl rfl ?_
              refine x_aload_n C dX12_closesSums_38 rfl 0 rfl rfl ?_
              refine x_vi C (As := []) (rest := [.ref (a 0)]) (m_waitTop E l a cd hG kf jn js jq wl0 hWl0 tp pl le cx wx sm lm nu ⟨v12, v13, v14, v15, v16, v17, n18, n19, ⟨by omega, by omega, by omega, by omega, by omega, by omega, by omega⟩, ⟨by omega, by omega⟩, k22⟩ fw iv0_2 (e :: W1 ++ W0) iv0_5) mf_X12_waitTop w_1363 0 k22 rfl rfl rfl (Nat.le_of_ble_eq_true rfl) ⟨(Nat.le_of_ble_eq_true rfl), (Nat.le_of_ble_eq_true rfl)⟩ ⟨(Nat.le_of_ble_eq_true rfl), (Nat.le_of_ble_eq_true rfl)⟩ dX12_closesSums_39 rfl (fun r143 w144 h142 => ?_)
              obtain ⟨hW145, x146⟩ := h142
              refine x_ws hW145 ?_
              refine x_top (x146.trans (show wtop (e :: W1 ++ W0) = (nI (e.1)) from rfl)) ?_
              refine x_iconst C (v := 0) dX12_closesSums_42 (by decide) rfl ?_
              refine x_vv C (As := [.int (nI (e.1)), .int 0]) (rest := []) (m_notes E l a cd hG kf jn js jq wl0 hWl0 (e.1) 0 (by omega) (by omega) tp pl le cx wx sm lm nu ⟨v12, v13, v14, v15, v16, v17, n18, n19, ⟨by omega, by omega, by omega, by omega, by omega, by omega, by omega⟩, ⟨by omega, by omega⟩, k22⟩ fx iv0_1 (by omega)) mf_X12_notes w_1349 0 k22 rfl rfl rfl (Nat.le_of_ble_eq_true rfl) ⟨(Nat.le_of_ble_eq_true rfl), (Nat.le_of_ble_eq_true rfl)⟩ ⟨(Nat.le_of_ble_eq_true rfl), (Nat.le_of_ble_eq_true rfl)⟩ dX12_closesSums_43 rfl (fun w149 h147 => ?_)
              obtain ⟨hW150, kq151, x152⟩ := h147
              have k153 : w149[6]? = some (iA E (a 6) 260 fw) := keeps_at kq151 iv0_2 (by first | decide | omega | (dsimp only; omega))
              have kp154 := keeps_tr kq0 kq151 (fun q hq => by first | omega | (dsimp only at *; omega))
              obtain ⟨mo155, k156⟩ := x152
              obtain ⟨v157, v158, v159, v160, v161, v162, n163, n164, bo165, bo166, k167⟩ := mo155
              refine x_aload_n C dX12_closesSums_46 rfl 0 rfl rfl ?_
              refine x_aload_n C dX12_closesSums_47 rfl 0 rfl rfl ?_
              refine x_get C (ci := 11) (k := 11) 0 k167 rfl in_X12 (by decide) w_1129 rfl dX12_closesSums_48 rfl ?_
              refine x_iconst C (v := 1) dX12_closesSums_51 (by decide) rfl ?_
              refine x_isub C (v := (nI (wx - 1))) dX12_closesSums_52 (pk_sub (a := wx) (b := 1) (by omega)) rfl ?_
              obtain ⟨w168, hw169⟩ : ∃ w : va_W, w = List.set w149 0 (ob (a 0) 11 [.ref (a 1), .ref (a 2), .ref (a 3), .ref (a 4), .int (nI tp), .int (nI pl), .int (nI le), .int v157, .int nu, .int v158, .int (nI (cx + 1)), .int (nI (wx - 1)), .int (nI sm), .int (nI (cd.2.2.2.2.2)), .ref (a 5), .ref (a 6), .ref (a 7), .ref (a 8), .ref (a 9), .ref (a 10), .ref (a 11), .ref (a 12), .ref (a 13), .ref (a 14), .ref (a 15), .ref (a 16), .ref (a 17), .int (nI lm), .ref (a 18), .ref (a 19), .ref (a 20), .ref (a 21), .int v159, .int v160, .int v161, .int v162, .int (nI n163), .int (nI n164), .ref (a 22), .ref (a 23), .ref (a 24), .ref (a 25), .ref (a 26), .ref (a 27), .ref (a 28), .ref (a 29), .ref (a 30), .int kf]) := ⟨_, rfl⟩
              refine x_put C (ci := 11) (k := 11) (ty := .int) 0 k167 rfl in_X12 tyX12 tyX12_ok nmX12 (by decide) w_1129 rfl rfl rfl rfl (Nat.le_of_ble_eq_true rfl) hw169.symm dX12_closesSums_53 rfl ?_
              have hW170 : WX (okM E a cd kf jn js jq) w168 := by rw [hw169]; exact hW150.set (k := 0) rfl ⟨tp, pl, le, v157, nu, v158, (cx + 1), (wx - 1), sm, lm, v159, v160, v161, v162, n163, n164, by omega, by omega, by omega, by omega, by omega, by omega, by omega, by omega, by omega, rfl⟩
              have k171 : w168[6]? = some (iA E (a 6) 260 fw) := by rw [hw169]; exact set_ne k153 (by decide)
              have k172 : w168[0]? = some (ob (a 0) 11 [.ref (a 1), .ref (a 2), .ref (a 3), .ref (a 4), .int (nI tp), .int (nI pl), .int (nI le), .int v157, .int nu, .int v158, .int (nI (cx + 1)), .int (nI (wx - 1)), .int (nI sm), .int (nI (cd.2.2.2.2.2)), .ref (a 5), .ref (a 6), .ref (a 7), .ref (a 8), .ref (a 9), .ref (a 10), .ref (a 11), .ref (a 12), .ref (a 13), .ref (a 14), .ref (a 15), .ref (a 16), .ref (a 17), .int (nI lm), .ref (a 18), .ref (a 19), .ref (a 20), .ref (a 21), .int v159, .int v160, .int v161, .int v162, .int (nI n163), .int (nI n164), .ref (a 22), .ref (a 23), .ref (a 24), .ref (a 25), .ref (a 26), .ref (a 27), .ref (a 28), .ref (a 29), .ref (a 30), .int kf]) := by rw [hw169]; exact set_eq k167
              have k173 : w168[5]? = some (iA E (a 5) 260 (upd fx cx (nI (1048576 * (e.1) + 0)))) := by rw [hw169]; exact set_ne k156 (by decide)
              have kp174 := keeps_set kp154 hw169 (by first | exact rfl | decide | omega | (dsimp only; omega))
              refine x_goto C (tgt := 0) dX12_closesSums_56 (by decide) ?_
              refine x_lv (lv1 := [(0, .ref (a 0)), (1, .int 1)]) [0, 1] rfl ?_
              exact ih0 (cx + 1) (wx - 1) ((upd fx cx (nI (1048576 * (e.1) + 0)))) (Wd ++ [e]) W1 w168 hW170 (by omega) ⟨v157, v158, v159, v160, v161, v162, n163, n164, ⟨by omega, by omega, by omega, by omega, by omega, by omega, by omega⟩, ⟨by omega, by omega⟩, k172⟩ k173 k171 (iv0_3.trans app_one) (d6_app iv0_4 (by omega)) iv0_5.2.2.2.2 (CI_pop (e := e) (CI_note (op := e.1) (v := 0) (h' := h + 1 + pend W1) iv0_6 (by omega) (by omega) (by omega) (Or.inr (Or.inr (Or.inr ⟨by omega, by omega, by omega, by omega⟩)))) (nJ ⟨by omega, by omega⟩)) (by omega) (ag_upd iv0_8 (by omega)) (sOps_hd iv0_9).2 kp174
        · skip
          have nf175 := nI_nlt' (a := (e.1)) (b := 4) c91 (by omega) (by omega)
          refine x_aload_n C dX12_closesSums_8 rfl 0 rfl rfl ?_
          refine x_vi C (As := []) (rest := []) (m_waitTop E l a cd hG kf jn js jq wl0 hWl0 tp pl le cx wx sm lm nu ⟨v12, v13, v14, v15, v16, v17, n18, n19, ⟨by omega, by omega, by omega, by omega, by omega, by omega, by omega⟩, ⟨by omega, by omega⟩, k22⟩ fw iv0_2 (e :: W1 ++ W0) iv0_5) mf_X12_waitTop w_1363 0 k22 rfl rfl rfl (Nat.le_of_ble_eq_true rfl) ⟨(Nat.le_of_ble_eq_true rfl), (Nat.le_of_ble_eq_true rfl)⟩ ⟨(Nat.le_of_ble_eq_true rfl), (Nat.le_of_ble_eq_true rfl)⟩ dX12_closesSums_9 rfl (fun r177 w178 h176 => ?_)
          obtain ⟨hW179, x180⟩ := h176
          refine x_ws hW179 ?_
          refine x_top (x180.trans (show wtop (e :: W1 ++ W0) = (nI (e.1)) from rfl)) ?_
          refine x_bipush C (v := 6) dX12_closesSums_12 (by decide) rfl ?_
          refine x_icmp_le C (tgt := 37) dX12_closesSums_14 (by decide) rfl (fun c181 => ?_) (fun c181 => ?_)
          · skip
            have nf182 := nI_le' (a := (e.1)) (b := 6) c181 (by omega) (by omega)
            have h26 : 2 ≤ e.1 ∧ e.1 ≤ 6 := by omega
            have hpd : pend (e :: W1) = 1 + pend W1 := by show pd1 e.1 + pend W1 = _; rw [pd1_1 h26]
            have hwg : wgt (e :: W1 ++ W0) = 1 + wgt (W1 ++ W0) := by show wg1 e.1 + wgt (W1 ++ W0) = _; rw [wg1_1 (Or.inl h26)]
            have hpl2 := pend_len (W := W1)
            have hlen := len_app iv0_5
            have hcx := CI_le iv0_6
            refine x_aload_n C dX12_closesSums_37 rfl 0 rfl rfl ?_
            refine x_aload_n C dX12_closesSums_38 rfl 0 rfl rfl ?_
            refine x_vi C (As := []) (rest := [.ref (a 0)]) (m_waitTop E l a cd hG kf jn js jq wl0 hWl0 tp pl le cx wx sm lm nu ⟨v12, v13, v14, v15, v16, v17, n18, n19, ⟨by omega, by omega, by omega, by omega, by omega, by omega, by omega⟩, ⟨by omega, by omega⟩, k22⟩ fw iv0_2 (e :: W1 ++ W0) iv0_5) mf_X12_waitTop w_1363 0 k22 rfl rfl rfl (Nat.le_of_ble_eq_true rfl) ⟨(Nat.le_of_ble_eq_true rfl), (Nat.le_of_ble_eq_true rfl)⟩ ⟨(Nat.le_of_ble_eq_true rfl), (Nat.le_of_ble_eq_true rfl)⟩ dX12_closesSums_39 rfl (fun r184 w185 h183 => ?_)
            obtain ⟨hW186, x187⟩ := h183
            refine x_ws hW186 ?_
            refine x_top (x187.trans (show wtop (e :: W1 ++ W0) = (nI (e.1)) from rfl)) ?_
            refine x_iconst C (v := 0) dX12_closesSums_42 (by decide) rfl ?_
            refine x_vv C (As := [.int (nI (e.1)), .int 0]) (rest := []) (m_notes E l a cd hG kf jn js jq wl0 hWl0 (e.1) 0 (by omega) (by omega) tp pl le cx wx sm lm nu ⟨v12, v13, v14, v15, v16, v17, n18, n19, ⟨by omega, by omega, by omega, by omega, by omega, by omega, by omega⟩, ⟨by omega, by omega⟩, k22⟩ fx iv0_1 (by omega)) mf_X12_notes w_1349 0 k22 rfl rfl rfl (Nat.le_of_ble_eq_true rfl) ⟨(Nat.le_of_ble_eq_true rfl), (Nat.le_of_ble_eq_true rfl)⟩ ⟨(Nat.le_of_ble_eq_true rfl), (Nat.le_of_ble_eq_true rfl)⟩ dX12_closesSums_43 rfl (fun w190 h188 => ?_)
            obtain ⟨hW191, kq192, x193⟩ := h188
            have k194 : w190[6]? = some (iA E (a 6) 260 fw) := keeps_at kq192 iv0_2 (by first | decide | omega | (dsimp only; omega))
            have kp195 := keeps_tr kq0 kq192 (fun q hq => by first | omega | (dsimp only at *; omega))
            obtain ⟨mo196, k197⟩ := x193
            obtain ⟨v198, v199, v200, v201, v202, v203, n204, n205, bo206, bo207, k208⟩ := mo196
            refine x_aload_n C dX12_closesSums_46 rfl 0 rfl rfl ?_
            refine x_aload_n C dX12_closesSums_47 rfl 0 rfl rfl ?_
            refine x_get C (ci := 11) (k := 11) 0 k208 rfl in_X12 (by decide) w_1129 rfl dX12_closesSums_48 rfl ?_
            refine x_iconst C (v := 1) dX12_closesSums_51 (by decide) rfl ?_
            refine x_isub C (v := (nI (wx - 1))) dX12_closesSums_52 (pk_sub (a := wx) (b := 1) (by omega)) rfl ?_
            obtain ⟨w209, hw210⟩ : ∃ w : va_W, w = List.set w190 0 (ob (a 0) 11 [.ref (a 1), .ref (a 2), .ref (a 3), .ref (a 4), .int (nI tp), .int (nI pl), .int (nI le), .int v198, .int nu, .int v199, .int (nI (cx + 1)), .int (nI (wx - 1)), .int (nI sm), .int (nI (cd.2.2.2.2.2)), .ref (a 5), .ref (a 6), .ref (a 7), .ref (a 8), .ref (a 9), .ref (a 10), .ref (a 11), .ref (a 12), .ref (a 13), .ref (a 14), .ref (a 15), .ref (a 16), .ref (a 17), .int (nI lm), .ref (a 18), .ref (a 19), .ref (a 20), .ref (a 21), .int v200, .int v201, .int v202, .int v203, .int (nI n204), .int (nI n205), .ref (a 22), .ref (a 23), .ref (a 24), .ref (a 25), .ref (a 26), .ref (a 27), .ref (a 28), .ref (a 29), .ref (a 30), .int kf]) := ⟨_, rfl⟩
            refine x_put C (ci := 11) (k := 11) (ty := .int) 0 k208 rfl in_X12 tyX12 tyX12_ok nmX12 (by decide) w_1129 rfl rfl rfl rfl (Nat.le_of_ble_eq_true rfl) hw210.symm dX12_closesSums_53 rfl ?_
            have hW211 : WX (okM E a cd kf jn js jq) w209 := by rw [hw210]; exact hW191.set (k := 0) rfl ⟨tp, pl, le, v198, nu, v199, (cx + 1), (wx - 1), sm, lm, v200, v201, v202, v203, n204, n205, by omega, by omega, by omega, by omega, by omega, by omega, by omega, by omega, by omega, rfl⟩
            have k212 : w209[6]? = some (iA E (a 6) 260 fw) := by rw [hw210]; exact set_ne k194 (by decide)
            have k213 : w209[0]? = some (ob (a 0) 11 [.ref (a 1), .ref (a 2), .ref (a 3), .ref (a 4), .int (nI tp), .int (nI pl), .int (nI le), .int v198, .int nu, .int v199, .int (nI (cx + 1)), .int (nI (wx - 1)), .int (nI sm), .int (nI (cd.2.2.2.2.2)), .ref (a 5), .ref (a 6), .ref (a 7), .ref (a 8), .ref (a 9), .ref (a 10), .ref (a 11), .ref (a 12), .ref (a 13), .ref (a 14), .ref (a 15), .ref (a 16), .ref (a 17), .int (nI lm), .ref (a 18), .ref (a 19), .ref (a 20), .ref (a 21), .int v200, .int v201, .int v202, .int v203, .int (nI n204), .int (nI n205), .ref (a 22), .ref (a 23), .ref (a 24), .ref (a 25), .ref (a 26), .ref (a 27), .ref (a 28), .ref (a 29), .ref (a 30), .int kf]) := by rw [hw210]; exact set_eq k208
            have k214 : w209[5]? = some (iA E (a 5) 260 (upd fx cx (nI (1048576 * (e.1) + 0)))) := by rw [hw210]; exact set_ne k197 (by decide)
            have kp215 := keeps_set kp195 hw210 (by first | exact rfl | decide | omega | (dsimp only; omega))
            refine x_goto C (tgt := 0) dX12_closesSums_56 (by decide) ?_
            refine x_lv (lv1 := [(0, .ref (a 0)), (1, .int 1)]) [0, 1] rfl ?_
            exact ih0 (cx + 1) (wx - 1) ((upd fx cx (nI (1048576 * (e.1) + 0)))) (Wd ++ [e]) W1 w209 hW211 (by omega) ⟨v198, v199, v200, v201, v202, v203, n204, n205, ⟨by omega, by omega, by omega, by omega, by omega, by omega, by omega⟩, ⟨by omega, by omega⟩, k213⟩ k214 k212 (iv0_3.trans app_one) (d6_app iv0_4 (by omega)) iv0_5.2.2.2.2 (CI_pop (e := e) (CI_note (op := e.1) (v := 0) (h' := h + 1 + pend W1) iv0_6 (by omega) (by omega) (by omega) (Or.inr (Or.inr (Or.inr ⟨by omega, by omega, by omega, by omega⟩)))) (nJ ⟨by omega, by omega⟩)) (by omega) (ag_upd iv0_8 (by omega)) (sOps_hd iv0_9).2 kp215
          · skip
            have nf216 := nI_nle' (a := (e.1)) (b := 6) c181 (by omega) (by omega)
            refine x_iload_n C dX12_closesSums_17 rfl 1 rfl rfl ?_
            refine x_if_eq C (tgt := 59) dX12_closesSums_18 (by decide) rfl (fun h => absurd h (by decide)) (fun _ => ?_)
            refine x_aload_n C dX12_closesSums_21 rfl 0 rfl rfl ?_
            refine x_vi C (As := []) (rest := []) (m_waitTop E l a cd hG kf jn js jq wl0 hWl0 tp pl le cx wx sm lm nu ⟨v12, v13, v14, v15, v16, v17, n18, n19, ⟨by omega, by omega, by omega, by omega, by omega, by omega, by omega⟩, ⟨by omega, by omega⟩, k22⟩ fw iv0_2 (e :: W1 ++ W0) iv0_5) mf_X12_waitTop w_1363 0 k22 rfl rfl rfl (Nat.le_of_ble_eq_true rfl) ⟨(Nat.le_of_ble_eq_true rfl), (Nat.le_of_ble_eq_true rfl)⟩ ⟨(Nat.le_of_ble_eq_true rfl), (Nat.le_of_ble_eq_true rfl)⟩ dX12_closesSums_22 rfl (fun r218 w219 h217 => ?_)
            obtain ⟨hW220, x221⟩ := h217
            refine x_ws hW220 ?_
            refine x_top (x221.trans (show wtop (e :: W1 ++ W0) = (nI (e.1)) from rfl)) ?_
            refine x_iconst C (v := 2) dX12_closesSums_25 (by decide) rfl ?_
            refine x_icmp_eq C (tgt := 37) dX12_closesSums_26 (by decide) rfl (fun c222 => ?_) (fun c222 => ?_)
            · skip
              have nf223 : e.1 = 2 := (nI_eq (by omega) (by omega)).mp c222
              have h26 : 2 ≤ e.1 ∧ e.1 ≤ 6 := by omega
              have hpd : pend (e :: W1) = 1 + pend W1 := by show pd1 e.1 + pend W1 = _; rw [pd1_1 h26]
              have hwg : wgt (e :: W1 ++ W0) = 1 + wgt (W1 ++ W0) := by show wg1 e.1 + wgt (W1 ++ W0) = _; rw [wg1_1 (Or.inl h26)]
              have hpl2 := pend_len (W := W1)
              have hlen := len_app iv0_5
              have hcx := CI_le iv0_6
              refine x_aload_n C dX12_closesSums_37 rfl 0 rfl rfl ?_
              refine x_aload_n C dX12_closesSums_38 rfl 0 rfl rfl ?_
              refine x_vi C (As := []) (rest := [.ref (a 0)]) (m_waitTop E l a cd hG kf jn js jq wl0 hWl0 tp pl le cx wx sm lm nu ⟨v12, v13, v14, v15, v16, v17, n18, n19, ⟨by omega, by omega, by omega, by omega, by omega, by omega, by omega⟩, ⟨by omega, by omega⟩, k22⟩ fw iv0_2 (e :: W1 ++ W0) iv0_5) mf_X12_waitTop w_1363 0 k22 rfl rfl rfl (Nat.le_of_ble_eq_true rfl) ⟨(Nat.le_of_ble_eq_true rfl), (Nat.le_of_ble_eq_true rfl)⟩ ⟨(Nat.le_of_ble_eq_true rfl), (Nat.le_of_ble_eq_true rfl)⟩ dX12_closesSums_39 rfl (fun r225 w226 h224 => ?_)
              obtain ⟨hW227, x228⟩ := h224
              refine x_ws hW227 ?_
              refine x_top (x228.trans (show wtop (e :: W1 ++ W0) = (nI (e.1)) from rfl)) ?_
              refine x_iconst C (v := 0) dX12_closesSums_42 (by decide) rfl ?_
              refine x_vv C (As := [.int (nI (e.1)), .int 0]) (rest := []) (m_notes E l a cd hG kf jn js jq wl0 hWl0 (e.1) 0 (by omega) (by omega) tp pl le cx wx sm lm nu ⟨v12, v13, v14, v15, v16, v17, n18, n19, ⟨by omega, by omega, by omega, by omega, by omega, by omega, by omega⟩, ⟨by omega, by omega⟩, k22⟩ fx iv0_1 (by omega)) mf_X12_notes w_1349 0 k22 rfl rfl rfl (Nat.le_of_ble_eq_true rfl) ⟨(Nat.le_of_ble_eq_true rfl), (Nat.le_of_ble_eq_true rfl)⟩ ⟨(Nat.le_of_ble_eq_true rfl), (Nat.le_of_ble_eq_true rfl)⟩ dX12_closesSums_43 rfl (fun w231 h229 => ?_)
              obtain ⟨hW232, kq233, x234⟩ := h229
              have k235 : w231[6]? = some (iA E (a 6) 260 fw) := keeps_at kq233 iv0_2 (by first | decide | omega | (dsimp only; omega))
              have kp236 := keeps_tr kq0 kq233 (fun q hq => by first | omega | (dsimp only at *; omega))
              obtain ⟨mo237, k238⟩ := x234
              obtain ⟨v239, v240, v241, v242, v243, v244, n245, n246, bo247, bo248, k249⟩ := mo237
              refine x_aload_n C dX12_closesSums_46 rfl 0 rfl rfl ?_
              refine x_aload_n C dX12_closesSums_47 rfl 0 rfl rfl ?_
              refine x_get C (ci := 11) (k := 11) 0 k249 rfl in_X12 (by decide) w_1129 rfl dX12_closesSums_48 rfl ?_
              refine x_iconst C (v := 1) dX12_closesSums_51 (by decide) rfl ?_
              refine x_isub C (v := (nI (wx - 1))) dX12_closesSums_52 (pk_sub (a := wx) (b := 1) (by omega)) rfl ?_
              obtain ⟨w250, hw251⟩ : ∃ w : va_W, w = List.set w231 0 (ob (a 0) 11 [.ref (a 1), .ref (a 2), .ref (a 3), .ref (a 4), .int (nI tp), .int (nI pl), .int (nI le), .int v239, .int nu, .int v240, .int (nI (cx + 1)), .int (nI (wx - 1)), .int (nI sm), .int (nI (cd.2.2.2.2.2)), .ref (a 5), .ref (a 6), .ref (a 7), .ref (a 8), .ref (a 9), .ref (a 10), .ref (a 11), .ref (a 12), .ref (a 13), .ref (a 14), .ref (a 15), .ref (a 16), .ref (a 17), .int (nI lm), .ref (a 18), .ref (a 19), .ref (a 20), .ref (a 21), .int v241, .int v242, .int v243, .int v244, .int (nI n245), .int (nI n246), .ref (a 22), .ref (a 23), .ref (a 24), .ref (a 25), .ref (a 26), .ref (a 27), .ref (a 28), .ref (a 29), .ref (a 30), .int kf]) := ⟨_, rfl⟩
              refine x_put C (ci := 11) (k := 11) (ty := .int) 0 k249 rfl in_X12 tyX12 tyX12_ok nmX12 (by decide) w_1129 rfl rfl rfl rfl (Nat.le_of_ble_eq_true rfl) hw251.symm dX12_closesSums_53 rfl ?_
              have hW252 : WX (okM E a cd kf jn js jq) w250 := by rw [hw251]; exact hW232.set (k := 0) rfl ⟨tp, pl, le, v239, nu, v240, (cx + 1), (wx - 1), sm, lm, v241, v242, v243, v244, n245, n246, by omega, by omega, by omega, by omega, by omega, by omega, by omega, by omega, by omega, rfl⟩
              have k253 : w250[6]? = some (iA E (a 6) 260 fw) := by rw [hw251]; exact set_ne k235 (by decide)
              have k254 : w250[0]? = some (ob (a 0) 11 [.ref (a 1), .ref (a 2), .ref (a 3), .ref (a 4), .int (nI tp), .int (nI pl), .int (nI le), .int v239, .int nu, .int v240, .int (nI (cx + 1)), .int (nI (wx - 1)), .int (nI sm), .int (nI (cd.2.2.2.2.2)), .ref (a 5), .ref (a 6), .ref (a 7), .ref (a 8), .ref (a 9), .ref (a 10), .ref (a 11), .ref (a 12), .ref (a 13), .ref (a 14), .ref (a 15), .ref (a 16), .ref (a 17), .int (nI lm), .ref (a 18), .ref (a 19), .ref (a 20), .ref (a 21), .int v241, .int v242, .int v243, .int v244, .int (nI n245), .int (nI n246), .ref (a 22), .ref (a 23), .ref (a 24), .ref (a 25), .ref (a 26), .ref (a 27), .ref (a 28), .ref (a 29), .ref (a 30), .int kf]) := by rw [hw251]; exact set_eq k249
              have k255 : w250[5]? = some (iA E (a 5) 260 (upd fx cx (nI (1048576 * (e.1) + 0)))) := by rw [hw251]; exact set_ne k238 (by decide)
              have kp256 := keeps_set kp236 hw251 (by first | exact rfl | decide | omega | (dsimp only; omega))
              refine x_goto C (tgt := 0) dX12_closesSums_56 (by decide) ?_
              refine x_lv (lv1 := [(0, .ref (a 0)), (1, .int 1)]) [0, 1] rfl ?_
              exact ih0 (cx + 1) (wx - 1) ((upd fx cx (nI (1048576 * (e.1) + 0)))) (Wd ++ [e]) W1 w250 hW252 (by omega) ⟨v239, v240, v241, v242, v243, v244, n245, n246, ⟨by omega, by omega, by omega, by omega, by omega, by omega, by omega⟩, ⟨by omega, by omega⟩, k254⟩ k255 k253 (iv0_3.trans app_one) (d6_app iv0_4 (by omega)) iv0_5.2.2.2.2 (CI_pop (e := e) (CI_note (op := e.1) (v := 0) (h' := h + 1 + pend W1) iv0_6 (by omega) (by omega) (by omega) (Or.inr (Or.inr (Or.inr ⟨by omega, by omega, by omega, by omega⟩)))) (nJ ⟨by omega, by omega⟩)) (by omega) (ag_upd iv0_8 (by omega)) (sOps_hd iv0_9).2 kp256
            · skip
              have nf257 : ¬ e.1 = 2 := fun q => c222 (congrArg nI q)
              refine x_aload_n C dX12_closesSums_29 rfl 0 rfl rfl ?_
              refine x_vi C (As := []) (rest := []) (m_waitTop E l a cd hG kf jn js jq wl0 hWl0 tp pl le cx wx sm lm nu ⟨v12, v13, v14, v15, v16, v17, n18, n19, ⟨by omega, by omega, by omega, by omega, by omega, by omega, by omega⟩, ⟨by omega, by omega⟩, k22⟩ fw iv0_2 (e :: W1 ++ W0) iv0_5) mf_X12_waitTop w_1363 0 k22 rfl rfl rfl (Nat.le_of_ble_eq_true rfl) ⟨(Nat.le_of_ble_eq_true rfl), (Nat.le_of_ble_eq_true rfl)⟩ ⟨(Nat.le_of_ble_eq_true rfl), (Nat.le_of_ble_eq_true rfl)⟩ dX12_closesSums_30 rfl (fun r259 w260 h258 => ?_)
              obtain ⟨hW261, x262⟩ := h258
              refine x_ws hW261 ?_
              refine x_top (x262.trans (show wtop (e :: W1 ++ W0) = (nI (e.1)) from rfl)) ?_
              refine x_iconst C (v := 3) dX12_closesSums_33 (by decide) rfl ?_
              refine x_icmp_ne C (tgt := 59) dX12_closesSums_34 (by decide) rfl (fun c263 => ?_) (fun c263 => ?_)
              · skip
                have nf264 : ¬ e.1 = 3 := fun q => c263 (congrArg nI q)
                exact x_vret C hr hlk dX12_closesSums_59 ⟨hWl0, kq0, ⟨cx, wx, fx, Wd, (e :: W1), iv0_3, iv0_4, iv0_5, by omega, ⟨v12, v13, v14, v15, v16, v17, n18, n19, ⟨by omega, by omega, by omega, by omega, by omega, by omega, by omega⟩, ⟨by omega, by omega⟩, k22⟩, iv0_1, iv0_6, iv0_7.1, iv0_8, iv0_9, Or.inr ⟨e, W1, rfl, by omega⟩⟩⟩
              · skip
                have nf265 : e.1 = 3 := (nI_eq (by omega) (by omega)).mp c263
                have h26 : 2 ≤ e.1 ∧ e.1 ≤ 6 := by omega
                have hpd : pend (e :: W1) = 1 + pend W1 := by show pd1 e.1 + pend W1 = _; rw [pd1_1 h26]
                have hwg : wgt (e :: W1 ++ W0) = 1 + wgt (W1 ++ W0) := by show wg1 e.1 + wgt (W1 ++ W0) = _; rw [wg1_1 (Or.inl h26)]
                have hpl2 := pend_len (W := W1)
                have hlen := len_app iv0_5
                have hcx := CI_le iv0_6
                refine x_aload_n C dX12_closesSums_37 rfl 0 rfl rfl ?_
                refine x_aload_n C dX12_closesSums_38 rfl 0 rfl rfl ?_
                refine x_vi C (As := []) (rest := [.ref (a 0)]) (m_waitTop E l a cd hG kf jn js jq wl0 hWl0 tp pl le cx wx sm lm nu ⟨v12, v13, v14, v15, v16, v17, n18, n19, ⟨by omega, by omega, by omega, by omega, by omega, by omega, by omega⟩, ⟨by omega, by omega⟩, k22⟩ fw iv0_2 (e :: W1 ++ W0) iv0_5) mf_X12_waitTop w_1363 0 k22 rfl rfl rfl (Nat.le_of_ble_eq_true rfl) ⟨(Nat.le_of_ble_eq_true rfl), (Nat.le_of_ble_eq_true rfl)⟩ ⟨(Nat.le_of_ble_eq_true rfl), (Nat.le_of_ble_eq_true rfl)⟩ dX12_closesSums_39 rfl (fun r267 w268 h266 => ?_)
                obtain ⟨hW269, x270⟩ := h266
                refine x_ws hW269 ?_
                refine x_top (x270.trans (show wtop (e :: W1 ++ W0) = (nI (e.1)) from rfl)) ?_
                refine x_iconst C (v := 0) dX12_closesSums_42 (by decide) rfl ?_
                refine x_vv C (As := [.int (nI (e.1)), .int 0]) (rest := []) (m_notes E l a cd hG kf jn js jq wl0 hWl0 (e.1) 0 (by omega) (by omega) tp pl le cx wx sm lm nu ⟨v12, v13, v14, v15, v16, v17, n18, n19, ⟨by omega, by omega, by omega, by omega, by omega, by omega, by omega⟩, ⟨by omega, by omega⟩, k22⟩ fx iv0_1 (by omega)) mf_X12_notes w_1349 0 k22 rfl rfl rfl (Nat.le_of_ble_eq_true rfl) ⟨(Nat.le_of_ble_eq_true rfl), (Nat.le_of_ble_eq_true rfl)⟩ ⟨(Nat.le_of_ble_eq_true rfl), (Nat.le_of_ble_eq_true rfl)⟩ dX12_closesSums_43 rfl (fun w273 h271 => ?_)
                obtain ⟨hW274, kq275, x276⟩ := h271
                have k277 : w273[6]? = some (iA E (a 6) 260 fw) := keeps_at kq275 iv0_2 (by first | decide | omega | (dsimp only; omega))
                have kp278 := keeps_tr kq0 kq275 (fun q hq => by first | omega | (dsimp only at *; omega))
                obtain ⟨mo279, k280⟩ := x276
                obtain ⟨v281, v282, v283, v284, v285, v286, n287, n288, bo289, bo290, k291⟩ := mo279
                refine x_aload_n C dX12_closesSums_46 rfl 0 rfl rfl ?_
                refine x_aload_n C dX12_closesSums_47 rfl 0 rfl rfl ?_
                refine x_get C (ci := 11) (k := 11) 0 k291 rfl in_X12 (by decide) w_1129 rfl dX12_closesSums_48 rfl ?_
                refine x_iconst C (v := 1) dX12_closesSums_51 (by decide) rfl ?_
                refine x_isub C (v := (nI (wx - 1))) dX12_closesSums_52 (pk_sub (a := wx) (b := 1) (by omega)) rfl ?_
                obtain ⟨w292, hw293⟩ : ∃ w : va_W, w = List.set w273 0 (ob (a 0) 11 [.ref (a 1), .ref (a 2), .ref (a 3), .ref (a 4), .int (nI tp), .int (nI pl), .int (nI le), .int v281, .int nu, .int v282, .int (nI (cx + 1)), .int (nI (wx - 1)), .int (nI sm), .int (nI (cd.2.2.2.2.2)), .ref (a 5), .ref (a 6), .ref (a 7), .ref (a 8), .ref (a 9), .ref (a 10), .ref (a 11), .ref (a 12), .ref (a 13), .ref (a 14), .ref (a 15), .ref (a 16), .ref (a 17), .int (nI lm), .ref (a 18), .ref (a 19), .ref (a 20), .ref (a 21), .int v283, .int v284, .int v285, .int v286, .int (nI n287), .int (nI n288), .ref (a 22), .ref (a 23), .ref (a 24), .ref (a 25), .ref (a 26), .ref (a 27), .ref (a 28), .ref (a 29), .ref (a 30), .int kf]) := ⟨_, rfl⟩
                refine x_put C (ci := 11) (k := 11) (ty := .int) 0 k291 rfl in_X12 tyX12 tyX12_ok nmX12 (by decide) w_1129 rfl rfl rfl rfl (Nat.le_of_ble_eq_true rfl) hw293.symm dX12_closesSums_53 rfl ?_
                have hW294 : WX (okM E a cd kf jn js jq) w292 := by rw [hw293]; exact hW274.set (k := 0) rfl ⟨tp, pl, le, v281, nu, v282, (cx + 1), (wx - 1), sm, lm, v283, v284, v285, v286, n287, n288, by omega, by omega, by omega, by omega, by omega, by omega, by omega, by omega, by omega, rfl⟩
                have k295 : w292[6]? = some (iA E (a 6) 260 fw) := by rw [hw293]; exact set_ne k277 (by decide)
                have k296 : w292[0]? = some (ob (a 0) 11 [.ref (a 1), .ref (a 2), .ref (a 3), .ref (a 4), .int (nI tp), .int (nI pl), .int (nI le), .int v281, .int nu, .int v282, .int (nI (cx + 1)), .int (nI (wx - 1)), .int (nI sm), .int (nI (cd.2.2.2.2.2)), .ref (a 5), .ref (a 6), .ref (a 7), .ref (a 8), .ref (a 9), .ref (a 10), .ref (a 11), .ref (a 12), .ref (a 13), .ref (a 14), .ref (a 15), .ref (a 16), .ref (a 17), .int (nI lm), .ref (a 18), .ref (a 19), .ref (a 20), .ref (a 21), .int v283, .int v284, .int v285, .int v286, .int (nI n287), .int (nI n288), .ref (a 22), .ref (a 23), .ref (a 24), .ref (a 25), .ref (a 26), .ref (a 27), .ref (a 28), .ref (a 29), .ref (a 30), .int kf]) := by rw [hw293]; exact set_eq k291
                have k297 : w292[5]? = some (iA E (a 5) 260 (upd fx cx (nI (1048576 * (e.1) + 0)))) := by rw [hw293]; exact set_ne k280 (by decide)
                have kp298 := keeps_set kp278 hw293 (by first | exact rfl | decide | omega | (dsimp only; omega))
                refine x_goto C (tgt := 0) dX12_closesSums_56 (by decide) ?_
                refine x_lv (lv1 := [(0, .ref (a 0)), (1, .int 1)]) [0, 1] rfl ?_
                exact ih0 (cx + 1) (wx - 1) ((upd fx cx (nI (1048576 * (e.1) + 0)))) (Wd ++ [e]) W1 w292 hW294 (by omega) ⟨v281, v282, v283, v284, v285, v286, n287, n288, ⟨by omega, by omega, by omega, by omega, by omega, by omega, by omega⟩, ⟨by omega, by omega⟩, k296⟩ k297 k295 (iv0_3.trans app_one) (d6_app iv0_4 (by omega)) iv0_5.2.2.2.2 (CI_pop (e := e) (CI_note (op := e.1) (v := 0) (h' := h + 1 + pend W1) iv0_6 (by omega) (by omega) (by omega) (Or.inr (Or.inr (Or.inr ⟨by omega, by omega, by omega, by omega⟩)))) (nJ ⟨by omega, by omega⟩)) (by omega) (ag_upd iv0_8 (by omega)) (sOps_hd iv0_9).2 kp298
  refine x_lv (lv1 := [(0, .ref (a 0)), (1, .int 1)]) [0, 1] rfl ?_
  exact loop0 _ cm wt fs [] Ws ws hW (Nat.lt_succ_self _) ⟨v1, v2, v3, v4, v5, v6, n7, n8, ⟨by omega, by omega, by omega, by omega, by omega, by omega, by omega⟩, ⟨by omega, by omega⟩, k11⟩ hfs hfw rfl (fun z hz => absurd hz List.not_mem_nil) hwr hci ⟨rfl, Nat.le_refl _⟩ (fun _ _ => rfl) hso kp0
theorem dX12_hasOpenSum_0 : decode cX12_hasOpenSum 0 = .ok (.iload_n 1, 1) := by decide +kernel
theorem dX12_hasOpenSum_1 : decode cX12_hasOpenSum 1 = .ok (.istore_n 2, 1) := by decide +kernel
theorem dX12_hasOpenSum_2 : decode cX12_hasOpenSum 2 = .ok (.iload_n 2, 1) := by decide +kernel
theorem dX12_hasOpenSum_3 : decode cX12_hasOpenSum 3 = .ok (.aload_n 0, 1) := by decide +kernel
theorem dX12_hasOpenSum_4 : decode cX12_hasOpenSum 4 = .ok (.getfield 161, 3) := by decide +kernel
theorem dX12_hasOpenSum_7 : decode cX12_hasOpenSum 7 = .ok (.if_icmp .ge 25, 3) := by decide +kernel
theorem dX12_hasOpenSum_10 : decode cX12_hasOpenSum 10 = .ok (.aload_n 0, 1) := by decide +kernel
theorem dX12_hasOpenSum_11 : decode cX12_hasOpenSum 11 = .ok (.getfield 26, 3) := by decide +kernel
theorem dX12_hasOpenSum_14 : decode cX12_hasOpenSum 14 = .ok (.iload_n 2, 1) := by decide +kernel
theorem dX12_hasOpenSum_15 : decode cX12_hasOpenSum 15 = .ok (.iaload, 1) := by decide +kernel
theorem dX12_hasOpenSum_16 : decode cX12_hasOpenSum 16 = .ok (.ldc 157, 2) := by decide +kernel
theorem dX12_hasOpenSum_18 : decode cX12_hasOpenSum 18 = .ok (.idiv, 1) := by decide +kernel
theorem dX12_hasOpenSum_19 : decode cX12_hasOpenSum 19 = .ok (.bipush 14, 2) := by decide +kernel
theorem dX12_hasOpenSum_21 : decode cX12_hasOpenSum 21 = .ok (.if_icmp .ne 5, 3) := by decide +kernel
theorem dX12_hasOpenSum_24 : decode cX12_hasOpenSum 24 = .ok (.iconst 1, 1) := by decide +kernel
theorem dX12_hasOpenSum_25 : decode cX12_hasOpenSum 25 = .ok (.ireturn, 1) := by decide +kernel
theorem dX12_hasOpenSum_26 : decode cX12_hasOpenSum 26 = .ok (.iinc 2 1, 3) := by decide +kernel
theorem dX12_hasOpenSum_29 : decode cX12_hasOpenSum 29 = .ok (.goto (-27), 3) := by decide +kernel
theorem dX12_hasOpenSum_32 : decode cX12_hasOpenSum 32 = .ok (.iconst 0, 1) := by decide +kernel
theorem dX12_hasOpenSum_33 : decode cX12_hasOpenSum 33 = .ok (.ireturn, 1) := by decide +kernel
set_option maxRecDepth 20000 in
set_option maxHeartbeats 4000000 in
theorem m_hasOpenSum (E : xE) (l : Launch) (a : Nat → Nat) (cd : Cd) (hG : Good cd) (kf : Int32) (jn js jq : Lb) (ws : va_W) (hW : WX (okM E a cd kf jn js jq) ws) (b0 : Nat) (tp pl le cm wt sm lm : Nat) (nu : Int32) (h0 : MO a cd kf ws tp pl le cm wt sm lm nu) (fw : Nat → Int32) (hfw : ws[6]? = some (iA E (a 6) 260 fw)) (Ws W0 : WL) (hwr : wR fw (Ws ++ W0) wt) (hb0 : W0.length = b0) : xI E l yX12_hasOpenSum cX12_hasOpenSum 3 (some .boolean) 0 [.ref (a 0), .int (nI b0)] ws (fun r w => w = ws ∧ zb r ∧ ((¬ r = 0 → ∃ e ∈ Ws, e.1 = 14) ∧ (r = 0 → ∀ e ∈ Ws, ¬ e.1 = 14))) := by
  refine xI_start (lv := [(0, .ref (a 0)), (1, .int (nI b0))]) RX12 (by decide) rfl (Nat.le_of_ble_eq_true rfl) rfl (fun p e s m below meth c A C hr hlk => ?_)
  obtain ⟨v1, v2, v3, v4, v5, v6, n7, n8, bo9, bo10, k11⟩ := h0
  have hlw := len_app hwr
  refine x_iload_n C dX12_hasOpenSum_0 rfl 1 rfl rfl ?_
  refine x_istore_n C (lv' := [(2, .int (nI b0)), (0, .ref (a 0)), (1, .int (nI b0))]) dX12_hasOpenSum_1 rfl (by decide) rfl rfl ?_
  have loop2 : ∀ (fu2 : Nat) (k : Nat), True → wt - k < fu2 → b0 ≤ k ∧ k ≤ wt → (∀ j, b0 ≤ j → j < k → ¬ fw j / 1048576 = 14) → X E p l e (xRm 0 0 0) s m ([.ref (a 0), .int (nI b0)] : List Value).toArray below meth c A 3 0 0 (MQ below (va_Qi (fun r w => w = ws ∧ zb r ∧ ((¬ r = 0 → ∃ e ∈ Ws, e.1 = 14) ∧ (r = 0 → ∀ e ∈ Ws, ¬ e.1 = 14))) (xB E A) A) ([.ref (a 0), .int (nI b0)] : List Value).toArray s 0 0 A) ws 2 [(0, .ref (a 0)), (1, .int (nI b0)), (2, .int (nI k))] [] := by
    intro fu2
    induction fu2 with
    | zero => intro k _ q; omega
    | succ fu2 ih2 =>
      intro k _ me2 iv2_0 iv2_1
      refine x_iload_n C dX12_hasOpenSum_2 rfl 2 rfl rfl ?_
      refine x_aload_n C dX12_hasOpenSum_3 rfl 0 rfl rfl ?_
      refine x_get C (ci := 11) (k := 11) 0 k11 rfl in_X12 (by decide) w_1129 rfl dX12_hasOpenSum_4 rfl ?_
      refine x_icmp_ge C (tgt := 32) dX12_hasOpenSum_7 (by decide) rfl (fun c12 => ?_) (fun c12 => ?_)
      · skip
        have nf13 := nI_le' (a := wt) (b := k) c12 (by omega) (by omega)
        refine x_iconst C (v := 0) dX12_hasOpenSum_32 (by decide) rfl ?_
        exact x_zret C hr hlk rfl dX12_hasOpenSum_33 ⟨rfl, (Or.inl rfl), ⟨fun q => absurd rfl q, fun _ => os_no hb0 hwr (fun j h1 h2 => iv2_1 j h1 (by omega))⟩⟩
      · skip
        have nf14 := nI_nle' (a := wt) (b := k) c12 (by omega) (by omega)
        refine x_aload_n C dX12_hasOpenSum_10 rfl 0 rfl rfl ?_
        refine x_get C (ci := 11) (k := 15) 0 k11 rfl in_X12 (by decide) w_1133 rfl dX12_hasOpenSum_11 rfl ?_
        refine x_iload_n C dX12_hasOpenSum_14 rfl 2 rfl rfl ?_
        refine x_ialk C (v := (fw k)) k (nI_clamp (by omega)) (nI_pos (by omega)) (by omega) 6 hfw rfl dX12_hasOpenSum_15 rfl ?_
        refine x_ldc C w_1340 dX12_hasOpenSum_16 rfl ?_
        refine x_idiv C (v := ((fw k) / (1048576 : Int32))) dX12_hasOpenSum_18 (by decide) rfl rfl ?_
        refine x_bipush C (v := 14) dX12_hasOpenSum_19 (by decide) rfl ?_
        refine x_icmp_ne C (tgt := 26) dX12_hasOpenSum_21 (by decide) rfl (fun c15 => ?_) (fun c15 => ?_)
        · skip
          refine x_iinc C (v := (nI (k + 1))) (lv' := [(2, .int (nI (k + 1))), (0, .ref (a 0)), (1, .int (nI b0))]) dX12_hasOpenSum_26 2 rfl (nI_add k 1) (by decide) rfl rfl ?_
          refine x_goto C (tgt := 2) dX12_hasOpenSum_29 (by decide) ?_
          refine x_lv (lv1 := [(0, .ref (a 0)), (1, .int (nI b0)), (2, .int (nI (k + 1)))]) [1, 2, 0] rfl ?_
          exact ih2 (k + 1) trivial (by omega) (by omega) (st_no iv2_1 c15)
        · skip
          refine x_iconst C (v := 1) dX12_hasOpenSum_24 (by decide) rfl ?_
          exact x_zret C hr hlk rfl dX12_hasOpenSum_25 ⟨rfl, (Or.inr rfl), ⟨fun _ => os_yes hb0 hwr (by omega) (by omega) c15, fun q => absurd q (by decide)⟩⟩
  refine x_lv (lv1 := [(0, .ref (a 0)), (1, .int (nI b0)), (2, .int (nI b0))]) [1, 2, 0] rfl ?_
  exact loop2 _ b0 trivial (Nat.lt_succ_self _) (by omega) (fun j h1 h2 => absurd h2 (by omega))
theorem dX12_readsSum_0 : decode cX12_readsSum 0 = .ok (.aload_n 0, 1) := by decide +kernel
theorem dX12_readsSum_1 : decode cX12_readsSum 1 = .ok (.getfield 161, 3) := by decide +kernel
theorem dX12_readsSum_4 : decode cX12_readsSum 4 = .ok (.istore_n 1, 1) := by decide +kernel
theorem dX12_readsSum_5 : decode cX12_readsSum 5 = .ok (.aload_n 0, 1) := by decide +kernel
theorem dX12_readsSum_6 : decode cX12_readsSum 6 = .ok (.invokevirtual 180, 3) := by decide +kernel
theorem dX12_readsSum_9 : decode cX12_readsSum 9 = .ok (.ifCond .ne 5, 3) := by decide +kernel
theorem dX12_readsSum_12 : decode cX12_readsSum 12 = .ok (.iconst 0, 1) := by decide +kernel
theorem dX12_readsSum_13 : decode cX12_readsSum 13 = .ok (.ireturn, 1) := by decide +kernel
theorem dX12_readsSum_14 : decode cX12_readsSum 14 = .ok (.aload_n 0, 1) := by decide +kernel
theorem dX12_readsSum_15 : decode cX12_readsSum 15 = .ok (.invokevirtual 137, 3) := by decide +kernel
theorem dX12_readsSum_18 : decode cX12_readsSum 18 = .ok (.invokestatic 183, 3) := by decide +kernel
theorem dX12_readsSum_21 : decode cX12_readsSum 21 = .ok (.istore_n 2, 1) := by decide +kernel
theorem dX12_readsSum_22 : decode cX12_readsSum 22 = .ok (.iload_n 2, 1) := by decide +kernel
theorem dX12_readsSum_23 : decode cX12_readsSum 23 = .ok (.iconst (-1), 1) := by decide +kernel
theorem dX12_readsSum_24 : decode cX12_readsSum 24 = .ok (.if_icmp .eq 59, 3) := by decide +kernel
theorem dX12_readsSum_27 : decode cX12_readsSum 27 = .ok (.aload_n 0, 1) := by decide +kernel
theorem dX12_readsSum_28 : decode cX12_readsSum 28 = .ok (.iload_n 2, 1) := by decide +kernel
theorem dX12_readsSum_29 : decode cX12_readsSum 29 = .ok (.iconst 4, 1) := by decide +kernel
theorem dX12_readsSum_30 : decode cX12_readsSum 30 = .ok (.if_icmp .ge 7, 3) := by decide +kernel
theorem dX12_readsSum_33 : decode cX12_readsSum 33 = .ok (.iconst 1, 1) := by decide +kernel
theorem dX12_readsSum_34 : decode cX12_readsSum 34 = .ok (.goto 4, 3) := by decide +kernel
theorem dX12_readsSum_37 : decode cX12_readsSum 37 = .ok (.iconst 0, 1) := by decide +kernel
theorem dX12_readsSum_38 : decode cX12_readsSum 38 = .ok (.invokevirtual 186, 3) := by decide +kernel
theorem dX12_readsSum_41 : decode cX12_readsSum 41 = .ok (.aload_n 0, 1) := by decide +kernel
theorem dX12_readsSum_42 : decode cX12_readsSum 42 = .ok (.getfield 26, 3) := by decide +kernel
theorem dX12_readsSum_45 : decode cX12_readsSum 45 = .ok (.aload_n 0, 1) := by decide +kernel
theorem dX12_readsSum_46 : decode cX12_readsSum 46 = .ok (.getfield 161, 3) := by decide +kernel
theorem dX12_readsSum_49 : decode cX12_readsSum 49 = .ok (.ldc 157, 2) := by decide +kernel
theorem dX12_readsSum_51 : decode cX12_readsSum 51 = .ok (.iload_n 2, 1) := by decide +kernel
theorem dX12_readsSum_52 : decode cX12_readsSum 52 = .ok (.imul, 1) := by decide +kernel
theorem dX12_readsSum_53 : decode cX12_readsSum 53 = .ok (.iastore, 1) := by decide +kernel
theorem dX12_readsSum_54 : decode cX12_readsSum 54 = .ok (.aload_n 0, 1) := by decide +kernel
theorem dX12_readsSum_55 : decode cX12_readsSum 55 = .ok (.aload_n 0, 1) := by decide +kernel
theorem dX12_readsSum_56 : decode cX12_readsSum 56 = .ok (.getfield 161, 3) := by decide +kernel
theorem dX12_readsSum_59 : decode cX12_readsSum 59 = .ok (.iconst 1, 1) := by decide +kernel
theorem dX12_readsSum_60 : decode cX12_readsSum 60 = .ok (.iadd, 1) := by decide +kernel
theorem dX12_readsSum_61 : decode cX12_readsSum 61 = .ok (.putfield 161, 3) := by decide +kernel
theorem dX12_readsSum_64 : decode cX12_readsSum 64 = .ok (.aload_n 0, 1) := by decide +kernel
theorem dX12_readsSum_65 : decode cX12_readsSum 65 = .ok (.aload_n 0, 1) := by decide +kernel
theorem dX12_readsSum_66 : decode cX12_readsSum 66 = .ok (.getfield 131, 3) := by decide +kernel
theorem dX12_readsSum_69 : decode cX12_readsSum 69 = .ok (.iconst 1, 1) := by decide +kernel
theorem dX12_readsSum_70 : decode cX12_readsSum 70 = .ok (.iadd, 1) := by decide +kernel
theorem dX12_readsSum_71 : decode cX12_readsSum 71 = .ok (.putfield 131, 3) := by decide +kernel
theorem dX12_readsSum_74 : decode cX12_readsSum 74 = .ok (.aload_n 0, 1) := by decide +kernel
theorem dX12_readsSum_75 : decode cX12_readsSum 75 = .ok (.invokevirtual 180, 3) := by decide +kernel
theorem dX12_readsSum_78 : decode cX12_readsSum 78 = .ok (.ifCond .ne 85, 3) := by decide +kernel
theorem dX12_readsSum_81 : decode cX12_readsSum 81 = .ok (.iconst 0, 1) := by decide +kernel
theorem dX12_readsSum_82 : decode cX12_readsSum 82 = .ok (.ireturn, 1) := by decide +kernel
theorem dX12_readsSum_83 : decode cX12_readsSum 83 = .ok (.aload_n 0, 1) := by decide +kernel
theorem dX12_readsSum_84 : decode cX12_readsSum 84 = .ok (.invokevirtual 137, 3) := by decide +kernel
theorem dX12_readsSum_87 : decode cX12_readsSum 87 = .ok (.bipush 93, 2) := by decide +kernel
theorem dX12_readsSum_89 : decode cX12_readsSum 89 = .ok (.if_icmp .ne 49, 3) := by decide +kernel
theorem dX12_readsSum_92 : decode cX12_readsSum 92 = .ok (.aload_n 0, 1) := by decide +kernel
theorem dX12_readsSum_93 : decode cX12_readsSum 93 = .ok (.iload_n 1, 1) := by decide +kernel
theorem dX12_readsSum_94 : decode cX12_readsSum 94 = .ok (.invokevirtual 190, 3) := by decide +kernel
theorem dX12_readsSum_97 : decode cX12_readsSum 97 = .ok (.ifCond .eq 41, 3) := by decide +kernel
theorem dX12_readsSum_100 : decode cX12_readsSum 100 = .ok (.aload_n 0, 1) := by decide +kernel
theorem dX12_readsSum_101 : decode cX12_readsSum 101 = .ok (.iconst 1, 1) := by decide +kernel
theorem dX12_readsSum_102 : decode cX12_readsSum 102 = .ok (.invokevirtual 186, 3) := by decide +kernel
theorem dX12_readsSum_105 : decode cX12_readsSum 105 = .ok (.aload_n 0, 1) := by decide +kernel
theorem dX12_readsSum_106 : decode cX12_readsSum 106 = .ok (.aload_n 0, 1) := by decide +kernel
theorem dX12_readsSum_107 : decode cX12_readsSum 107 = .ok (.getfield 161, 3) := by decide +kernel
theorem dX12_readsSum_110 : decode cX12_readsSum 110 = .ok (.iconst 1, 1) := by decide +kernel
theorem dX12_readsSum_111 : decode cX12_readsSum 111 = .ok (.isub, 1) := by decide +kernel
theorem dX12_readsSum_112 : decode cX12_readsSum 112 = .ok (.putfield 161, 3) := by decide +kernel
theorem dX12_readsSum_115 : decode cX12_readsSum 115 = .ok (.aload_n 0, 1) := by decide +kernel
theorem dX12_readsSum_116 : decode cX12_readsSum 116 = .ok (.aload_n 0, 1) := by decide +kernel
theorem dX12_readsSum_117 : decode cX12_readsSum 117 = .ok (.getfield 158, 3) := by decide +kernel
theorem dX12_readsSum_120 : decode cX12_readsSum 120 = .ok (.iconst 1, 1) := by decide +kernel
theorem dX12_readsSum_121 : decode cX12_readsSum 121 = .ok (.isub, 1) := by decide +kernel
theorem dX12_readsSum_122 : decode cX12_readsSum 122 = .ok (.putfield 158, 3) := by decide +kernel
theorem dX12_readsSum_125 : decode cX12_readsSum 125 = .ok (.aload_n 0, 1) := by decide +kernel
theorem dX12_readsSum_126 : decode cX12_readsSum 126 = .ok (.aload_n 0, 1) := by decide +kernel
theorem dX12_readsSum_127 : decode cX12_readsSum 127 = .ok (.getfield 131, 3) := by decide +kernel
theorem dX12_readsSum_130 : decode cX12_readsSum 130 = .ok (.iconst 1, 1) := by decide +kernel
theorem dX12_readsSum_131 : decode cX12_readsSum 131 = .ok (.iadd, 1) := by decide +kernel
theorem dX12_readsSum_132 : decode cX12_readsSum 132 = .ok (.putfield 131, 3) := by decide +kernel
theorem dX12_readsSum_135 : decode cX12_readsSum 135 = .ok (.goto 28, 3) := by decide +kernel
theorem dX12_readsSum_138 : decode cX12_readsSum 138 = .ok (.aload_n 0, 1) := by decide +kernel
theorem dX12_readsSum_139 : decode cX12_readsSum 139 = .ok (.iload_n 1, 1) := by decide +kernel
theorem dX12_readsSum_140 : decode cX12_readsSum 140 = .ok (.invokevirtual 190, 3) := by decide +kernel
theorem dX12_readsSum_143 : decode cX12_readsSum 143 = .ok (.ifCond .eq 13, 3) := by decide +kernel
theorem dX12_readsSum_146 : decode cX12_readsSum 146 = .ok (.aload_n 0, 1) := by decide +kernel
theorem dX12_readsSum_147 : decode cX12_readsSum 147 = .ok (.iconst 1, 1) := by decide +kernel
theorem dX12_readsSum_148 : decode cX12_readsSum 148 = .ok (.aload_n 0, 1) := by decide +kernel
theorem dX12_readsSum_149 : decode cX12_readsSum 149 = .ok (.getfield 131, 3) := by decide +kernel
theorem dX12_readsSum_152 : decode cX12_readsSum 152 = .ok (.invokevirtual 144, 3) := by decide +kernel
theorem dX12_readsSum_155 : decode cX12_readsSum 155 = .ok (.ireturn, 1) := by decide +kernel
theorem dX12_readsSum_156 : decode cX12_readsSum 156 = .ok (.aload_n 0, 1) := by decide +kernel
theorem dX12_readsSum_157 : decode cX12_readsSum 157 = .ok (.iconst 1, 1) := by decide +kernel
theorem dX12_readsSum_158 : decode cX12_readsSum 158 = .ok (.invokevirtual 186, 3) := by decide +kernel
theorem dX12_readsSum_161 : decode cX12_readsSum 161 = .ok (.iconst 1, 1) := by decide +kernel
theorem dX12_readsSum_162 : decode cX12_readsSum 162 = .ok (.ireturn, 1) := by decide +kernel
theorem dX12_readsSum_163 : decode cX12_readsSum 163 = .ok (.goto (-149), 3) := by decide +kernel
set_option maxRecDepth 20000 in
set_option maxHeartbeats 4000000 in
theorem m_readsSum (E : xE) (l : Launch) (a : Nat → Nat) (cd : Cd) (hG : Good cd) (kf : Int32) (jn js jq : Lb) (ws : va_W) (hW : WX (okM E a cd kf jn js jq) ws) (tp pl le cm wt sm lm : Nat) (nu : Int32) (h0 : MO a cd kf ws tp pl le cm wt sm lm nu) (tf : Nat → Int32) (htf : ws[4]? = some (bA E (a 4) 260 tf)) (hpl : pl ≤ le) (fs : Nat → Int32) (hfs : ws[5]? = some (iA E (a 5) 260 fs)) (fw : Nat → Int32) (hfw : ws[6]? = some (iA E (a 6) 260 fw)) (W : WL) (hwr : wR fw W wt) (hno : nOps W) (c0 h : Nat) (hci : CI fs c0 cm h W) (hh : h ≤ 1) (sg : Nat) (hphi : cm + wgt W + sg ≤ pl) (hwp : wt ≤ pl) : xI E l yX12_readsSum cX12_readsSum 3 (some .boolean) 4 [.ref (a 0)] ws (fun r w => WX (okM E a cd kf jn js jq) w ∧ keeps ws w (fun q => q = 0 ∨ q = 5 ∨ q = 6) ∧ zb r ∧ ((r = 0 ∧ RF E a cd kf w tp le sm lm) ∨ (r = 1 ∧ ∃ (pl2 cm2 : Nat) (fs2 fw2 : Nat → Int32), pl < pl2 ∧ pl2 ≤ le ∧ wR fw2 W wt ∧ RS E a cd kf w tp pl2 le cm2 wt sm lm fs2 fw2 ∧ CI fs2 c0 cm2 (h + 1) W ∧ cm2 + wgt W + sg ≤ pl2 ∧ ∀ k, k < c0 → fs2 k = fs k))) := by
  refine xI_start (lv := [(0, .ref (a 0))]) RX12 (by decide) rfl (Nat.le_of_ble_eq_true rfl) rfl (fun p e s m below meth c A C hr hlk => ?_)
  have kp0 : keeps ws ws (fun q => q = 0 ∨ q = 5 ∨ q = 6) := keeps_rf
  obtain ⟨v1, v2, v3, v4, v5, v6, n7, n8, bo9, bo10, k11⟩ := h0
  refine x_aload_n C dX12_readsSum_0 rfl 0 rfl rfl ?_
  refine x_get C (ci := 11) (k := 11) 0 k11 rfl in_X12 (by decide) w_1129 rfl dX12_readsSum_1 rfl ?_
  refine x_istore_n C (lv' := [(1, .int (nI wt)), (0, .ref (a 0))]) dX12_readsSum_4 rfl (by decide) rfl rfl ?_
  refine x_aload_n C dX12_readsSum_5 rfl 1 rfl rfl ?_
  refine x_vi C (As := []) (rest := []) (m_readsFactor E l a cd hG kf jn js jq ws hW tp pl le cm wt sm lm nu ⟨v1, v2, v3, v4, v5, v6, n7, n8, ⟨by omega, by omega, by omega, by omega, by omega, by omega, by omega⟩, ⟨by omega, by omega⟩, k11⟩ tf htf (by omega) fs hfs fw hfw W hwr c0 h hci (by omega) sg (by omega) (by omega)) mf_X12_readsFactor w_1332 0 k11 rfl rfl rfl (Nat.le_of_ble_eq_true rfl) ⟨(Nat.le_of_ble_eq_true rfl), (Nat.le_of_ble_eq_true rfl)⟩ ⟨(Nat.le_of_ble_eq_true rfl), (Nat.le_of_ble_eq_true rfl)⟩ dX12_readsSum_6 rfl (fun r13 w14 h12 => ?_)
  obtain ⟨hW15, kq16, zb17, x18⟩ := h12
  have k19 : w14[4]? = some (bA E (a 4) 260 tf) := keeps_at kq16 htf (by first | decide | omega | (dsimp only; omega))
  have kp20 := keeps_tr kp0 kq16 (fun q hq => by first | omega | (dsimp only at *; omega))
  rcases x18 with ⟨e21, rf22⟩ | ⟨e23, pl24, wt25, x26, fw27, Wn28, hf29, hf30, hf31, hf32, hf33, hf34, hf35, hf36⟩
  · refine x_top e21 ?_
    obtain ⟨pl37, cm38, wt39, fs40, fw41, rs42⟩ := rf22
    obtain ⟨⟨nu43, mo44⟩, k45, k46⟩ := rs42
    obtain ⟨v47, v48, v49, v50, v51, v52, n53, n54, bo55, bo56, k57⟩ := mo44
    refine x_if_ne C (tgt := 14) dX12_readsSum_9 (by decide) rfl (fun h => absurd h (by decide)) (fun _ => ?_)
    refine x_iconst C (v := 0) dX12_readsSum_12 (by decide) rfl ?_
    exact x_zret C hr hlk rfl dX12_readsSum_13 ⟨hW15, kp20, (Or.inl rfl), (Or.inl ⟨rfl, ⟨pl37, cm38, wt39, _, _, ⟨⟨_, ⟨v47, v48, v49, v50, v51, v52, n53, n54, ⟨by omega, by omega, by omega, by omega, by omega, by omega, by omega⟩, ⟨by omega, by omega⟩, k57⟩⟩, k45, k46⟩⟩⟩)⟩
  · refine x_top e23 ?_
    obtain ⟨⟨nu58, mo59⟩, k60, k61⟩ := hf33
    obtain ⟨v62, v63, v64, v65, v66, v67, n68, n69, bo70, bo71, k72⟩ := mo59
    refine x_if_ne C (tgt := 14) dX12_readsSum_9 (by decide) rfl (fun _ => ?_) (fun h => absurd h (by decide))
    have loop14 : ∀ (fu14 : Nat) (px : Nat) (cx : Nat) (wx : Nat) (nz : Int32) (fx : Nat → Int32) (gx : Nat → Int32) (Ws : WL) (wl14 : va_W), WX (okM E a cd kf jn js jq) wl14 → le - px < fu14 → MO a cd kf wl14 tp px le cx wx sm lm nz → wl14[4]? = some (bA E (a 4) 260 tf) → wl14[5]? = some (iA E (a 5) 260 fx) → wl14[6]? = some (iA E (a 6) 260 gx) → wR gx (Ws ++ W) wx → sOps Ws → CI fx c0 cx (h + 1 + pend Ws) (Ws ++ W) → cx + wgt (Ws ++ W) + sg ≤ px ∧ wx ≤ px ∧ pl < px ∧ px ≤ le → (∀ k, k < c0 → fx k = fs k) → keeps ws wl14 (fun q => q = 0 ∨ q = 5 ∨ q = 6) → X E p l e (xRm 4 0 0) s m ([.ref (a 0)] : List Value).toArray below meth c A 3 0 0 (MQ below (va_Qi (fun r w => WX (okM E a cd kf jn js jq) w ∧ keeps ws w (fun q => q = 0 ∨ q = 5 ∨ q = 6) ∧ zb r ∧ ((r = 0 ∧ RF E a cd kf w tp le sm lm) ∨ (r = 1 ∧ ∃ (pl2 cm2 : Nat) (fs2 fw2 : Nat → Int32), pl < pl2 ∧ pl2 ≤ le ∧ wR fw2 W wt ∧ RS E a cd kf w tp pl2 le cm2 wt sm lm fs2 fw2 ∧ CI fs2 c0 cm2 (h + 1) W ∧ cm2 + wgt W + sg ≤ pl2 ∧ ∀ k, k < c0 → fs2 k = fs k))) (xB E A) A) ([.ref (a 0)] : List Value).toArray s 0 0 A) wl14 14 [(0, .ref (a 0)), (1, .int (nI wt))] [] := by
      intro fu14
      induction fu14 with
      | zero => intro px cx wx nz fx gx Ws wl14 _ q; omega
      | succ fu14 ih14 =>
        intro px cx wx nz fx gx Ws wl14 hWl14 me14 iv14_0 iv14_1 iv14_2 iv14_3 iv14_4 iv14_5 iv14_6 iv14_7 iv14_8 kq14
        obtain ⟨v73, v74, v75, v76, v77, v78, n79, n80, bo81, bo82, k83⟩ := iv14_0
        refine x_aload_n C dX12_readsSum_14 rfl 0 rfl rfl ?_
        refine x_vi C (As := []) (rest := []) (m_here E l a cd hG kf jn js jq wl14 hWl14 tp px le cx wx sm lm nz ⟨v73, v74, v75, v76, v77, v78, n79, n80, ⟨by omega, by omega, by omega, by omega, by omega, by omega, by omega⟩, ⟨by omega, by omega⟩, k83⟩ tf iv14_1) mf_X12_here w_1317 0 k83 rfl rfl rfl (Nat.le_of_ble_eq_true rfl) ⟨(Nat.le_of_ble_eq_true rfl), (Nat.le_of_ble_eq_true rfl)⟩ ⟨(Nat.le_of_ble_eq_true rfl), (Nat.le_of_ble_eq_true rfl)⟩ dX12_readsSum_15 rfl (fun r85 w86 h84 => ?_)
        obtain ⟨hW87, x88⟩ := h84
        refine x_ws hW87 ?_
        refine x_si C (As := [.int r85]) (rest := []) (m_sumSign E l a cd hG kf jn js jq wl14 hWl14 r85) mf_X12_sumSign w_1356 rfl rfl (Nat.le_of_ble_eq_true rfl) ⟨(Nat.le_of_ble_eq_true rfl), (Nat.le_of_ble_eq_true rfl)⟩ ⟨(Nat.le_of_ble_eq_true rfl), (Nat.le_of_ble_eq_true rfl)⟩ dX12_readsSum_18 rfl (fun r90 w91 h89 => ?_)
        obtain ⟨hW92, x93⟩ := h89
        refine x_ws hW92 ?_
        rcases x93 with e94 | ⟨n95, hn96, en97, hm98⟩
        · refine x_top e94 ?_
          refine x_istore_n C (lv' := [(2, .int (-1)), (0, .ref (a 0)), (1, .int (nI wt))]) dX12_readsSum_21 rfl (by decide) rfl rfl ?_
          refine x_iload_n C dX12_readsSum_22 rfl 0 rfl rfl ?_
          refine x_iconst C (v := (-1)) dX12_readsSum_23 (by decide) rfl ?_
          refine x_icmp_eq C (tgt := 83) dX12_readsSum_24 (by decide) rfl (fun _ => ?_) (fun h => absurd h (by decide))
          refine x_aload_n C dX12_readsSum_83 rfl 1 rfl rfl ?_
          refine x_vi C (As := []) (rest := []) (m_here E l a cd hG kf jn js jq wl14 hWl14 tp px le cx wx sm lm nz ⟨v73, v74, v75, v76, v77, v78, n79, n80, ⟨by omega, by omega, by omega, by omega, by omega, by omega, by omega⟩, ⟨by omega, by omega⟩, k83⟩ tf iv14_1) mf_X12_here w_1317 0 k83 rfl rfl rfl (Nat.le_of_ble_eq_true rfl) ⟨(Nat.le_of_ble_eq_true rfl), (Nat.le_of_ble_eq_true rfl)⟩ ⟨(Nat.le_of_ble_eq_true rfl), (Nat.le_of_ble_eq_true rfl)⟩ dX12_readsSum_84 rfl (fun r100 w101 h99 => ?_)
          obtain ⟨hW102, x103⟩ := h99
          refine x_ws hW102 ?_
          refine x_bipush C (v := 93) dX12_readsSum_87 (by decide) rfl ?_
          refine x_icmp_ne C (tgt := 138) dX12_readsSum_89 (by decide) rfl (fun c104 => ?_) (fun c104 => ?_)
          · skip
            refine x_aload_n C dX12_readsSum_138 rfl 1 rfl rfl ?_
            refine x_iload_n C dX12_readsSum_139 rfl 2 rfl rfl ?_
            refine x_vi C (As := [.int (nI wt)]) (rest := []) (m_hasOpenSum E l a cd hG kf jn js jq wl14 hWl14 wt tp px le cx wx sm lm nz ⟨v73, v74, v75, v76, v77, v78, n79, n80, ⟨by omega, by omega, by omega, by omega, by omega, by omega, by omega⟩, ⟨by omega, by omega⟩, k83⟩ gx iv14_3 Ws W iv14_4 (wR_len hwr)) mf_X12_hasOpenSum w_1367 0 k83 rfl rfl rfl (Nat.le_of_ble_eq_true rfl) ⟨(Nat.le_of_ble_eq_true rfl), (Nat.le_of_ble_eq_true rfl)⟩ ⟨(Nat.le_of_ble_eq_true rfl), (Nat.le_of_ble_eq_true rfl)⟩ dX12_readsSum_140 rfl (fun r106 w107 h105 => ?_)
            obtain ⟨hW108, zb109, x110⟩ := h105
            refine x_ws hW108 ?_
            refine x_if_eq C (tgt := 156) dX12_readsSum_143 (by decide) rfl (fun c111 => ?_) (fun c111 => ?_)
            · skip
              refine x_aload_n C dX12_readsSum_156 rfl 1 rfl rfl ?_
              refine x_iconst C (v := 1) dX12_readsSum_157 (by decide) rfl ?_
              refine x_vv C (As := [.int 1]) (rest := []) (m_closesSums1 E l a cd hG kf jn js jq wl14 hWl14 tp px le cx wx sm lm nz ⟨v73, v74, v75, v76, v77, v78, n79, n80, ⟨by omega, by omega, by omega, by omega, by omega, by omega, by omega⟩, ⟨by omega, by omega⟩, k83⟩ fx iv14_2 gx iv14_3 Ws W iv14_4 iv14_5 hno c0 h iv14_6 (by omega) (by omega) (by omega)) mf_X12_closesSums w_1359 0 k83 rfl rfl rfl (Nat.le_of_ble_eq_true rfl) ⟨(Nat.le_of_ble_eq_true rfl), (Nat.le_of_ble_eq_true rfl)⟩ ⟨(Nat.le_of_ble_eq_true rfl), (Nat.le_of_ble_eq_true rfl)⟩ dX12_readsSum_158 rfl (fun w114 h112 => ?_)
              obtain ⟨hW115, kq116, x117⟩ := h112
              have k118 : w114[4]? = some (bA E (a 4) 260 tf) := keeps_at kq116 iv14_1 (by first | decide | omega | (dsimp only; omega))
              have k119 : w114[6]? = some (iA E (a 6) 260 gx) := keeps_at kq116 iv14_3 (by first | decide | omega | (dsimp only; omega))
              have kp120 := keeps_tr kq14 kq116 (fun q hq => by first | omega | (dsimp only at *; omega))
              obtain ⟨cm121, wt122, fs123, Wd124, We125, hc126, hc127, hc128, hc129, hc130, hc131, hc132, hc133, hc134, hc135, hc136⟩ := x117
              obtain ⟨v137, v138, v139, v140, v141, v142, n143, n144, bo145, bo146, k147⟩ := hc130
              rcases hc136 with q9 | ⟨e, W1, q9, he14⟩
              rotate_left
              · exact (all14 (q9 ▸ hc126) (x110.2 c111) he14).elim
              subst q9
              have hwq : wt122 = wt := (wR_len hc128).symm.trans (wR_len hwr)
              refine x_iconst C (v := 1) dX12_readsSum_161 (by decide) rfl ?_
              exact x_zret C hr hlk rfl dX12_readsSum_162 ⟨hW115, kp120, (Or.inr rfl), (Or.inr ⟨rfl, px, cm121, _, _, by omega, by omega, hwq ▸ hc128, ⟨⟨_, hwq ▸ (show MO a cd kf w114 tp px le cm121 wt122 sm lm nz from ⟨v137, v138, v139, v140, v141, v142, n143, n144, ⟨by omega, by omega, by omega, by omega, by omega, by omega, by omega⟩, ⟨by omega, by omega⟩, k147⟩)⟩, hc131, k119⟩, hc132, by have q8 : wgt ([] ++ W) = wgt W := rfl; omega, fun k hk => (hc134 k hk).trans (iv14_8 k hk)⟩)⟩
            · skip
              have h14148 := x110.1 c111
              refine x_aload_n C dX12_readsSum_146 rfl 1 rfl rfl ?_
              refine x_iconst C (v := 1) dX12_readsSum_147 (by decide) rfl ?_
              refine x_aload_n C dX12_readsSum_148 rfl 1 rfl rfl ?_
              refine x_get C (ci := 11) (k := 5) 0 k83 rfl in_X12 (by decide) w_1123 rfl dX12_readsSum_149 rfl ?_
              refine x_vi C (As := [.int 1, .int (nI px)]) (rest := []) (m_wrongAt E l a cd hG kf jn js jq wl14 hWl14 (1 : Int32) ((nI px)) tp px le cx wx sm lm nz ⟨v73, v74, v75, v76, v77, v78, n79, n80, ⟨by omega, by omega, by omega, by omega, by omega, by omega, by omega⟩, ⟨by omega, by omega⟩, k83⟩) mf_X12_wrongAt w_1324 0 k83 rfl rfl rfl (Nat.le_of_ble_eq_true rfl) ⟨(Nat.le_of_ble_eq_true rfl), (Nat.le_of_ble_eq_true rfl)⟩ ⟨(Nat.le_of_ble_eq_true rfl), (Nat.le_of_ble_eq_true rfl)⟩ dX12_readsSum_152 rfl (fun r150 w151 h149 => ?_)
              obtain ⟨hW152, kq153, e154, x155⟩ := h149
              refine x_top e154 ?_
              have k156 : w151[4]? = some (bA E (a 4) 260 tf) := keeps_at kq153 iv14_1 (by first | decide | omega | (dsimp only; omega))
              have k157 : w151[5]? = some (iA E (a 5) 260 fx) := keeps_at kq153 iv14_2 (by first | decide | omega | (dsimp only; omega))
              have k158 : w151[6]? = some (iA E (a 6) 260 gx) := keeps_at kq153 iv14_3 (by first | decide | omega | (dsimp only; omega))
              have kp159 := keeps_tr kq14 kq153 (fun q hq => by first | omega | (dsimp only at *; omega))
              obtain ⟨v160, v161, v162, v163, v164, v165, n166, n167, bo168, bo169, k170⟩ := x155
              exact x_zret C hr hlk rfl dX12_readsSum_155 ⟨hW152, kp159, (Or.inl rfl), (Or.inl ⟨rfl, ⟨px, cx, wx, _, _, ⟨⟨_, ⟨v160, v161, v162, v163, v164, v165, n166, n167, ⟨by omega, by omega, by omega, by omega, by omega, by omega, by omega⟩, ⟨by omega, by omega⟩, k170⟩⟩, k157, k158⟩⟩⟩)⟩
          · skip
            have hp171 := hv_lt (x103.symm.trans c104) (by decide)
            refine x_aload_n C dX12_readsSum_92 rfl 1 rfl rfl ?_
            refine x_iload_n C dX12_readsSum_93 rfl 2 rfl rfl ?_
            refine x_vi C (As := [.int (nI wt)]) (rest := []) (m_hasOpenSum E l a cd hG kf jn js jq wl14 hWl14 wt tp px le cx wx sm lm nz ⟨v73, v74, v75, v76, v77, v78, n79, n80, ⟨by omega, by omega, by omega, by omega, by omega, by omega, by omega⟩, ⟨by omega, by omega⟩, k83⟩ gx iv14_3 Ws W iv14_4 (wR_len hwr)) mf_X12_hasOpenSum w_1367 0 k83 rfl rfl rfl (Nat.le_of_ble_eq_true rfl) ⟨(Nat.le_of_ble_eq_true rfl), (Nat.le_of_ble_eq_true rfl)⟩ ⟨(Nat.le_of_ble_eq_true rfl), (Nat.le_of_ble_eq_true rfl)⟩ dX12_readsSum_94 rfl (fun r173 w174 h172 => ?_)
            obtain ⟨hW175, zb176, x177⟩ := h172
            refine x_ws hW175 ?_
            refine x_if_eq C (tgt := 138) dX12_readsSum_97 (by decide) rfl (fun c178 => ?_) (fun c178 => ?_)
            · skip
              refine x_aload_n C dX12_readsSum_138 rfl 1 rfl rfl ?_
              refine x_iload_n C dX12_readsSum_139 rfl 2 rfl rfl ?_
              refine x_vi C (As := [.int (nI wt)]) (rest := []) (m_hasOpenSum E l a cd hG kf jn js jq wl14 hWl14 wt tp px le cx wx sm lm nz ⟨v73, v74, v75, v76, v77, v78, n79, n80, ⟨by omega, by omega, by omega, by omega, by omega, by omega, by omega⟩, ⟨by omega, by omega⟩, k83⟩ gx iv14_3 Ws W iv14_4 (wR_len hwr)) mf_X12_hasOpenSum w_1367 0 k83 rfl rfl rfl (Nat.le_of_ble_eq_true rfl) ⟨(Nat.le_of_ble_eq_true rfl), (Nat.le_of_ble_eq_true rfl)⟩ ⟨(Nat.le_of_ble_eq_true rfl), (Nat.le_of_ble_eq_true rfl)⟩ dX12_readsSum_140 rfl (fun r180 w181 h179 => ?_)
              obtain ⟨hW182, zb183, x184⟩ := h179
              refine x_ws hW182 ?_
              refine x_if_eq C (tgt := 156) dX12_readsSum_143 (by decide) rfl (fun c185 => ?_) (fun c185 => ?_)
              · skip
                refine x_aload_n C dX12_readsSum_156 rfl 1 rfl rfl ?_
                refine x_iconst C (v := 1) dX12_readsSum_157 (by decide) rfl ?_
                refine x_vv C (As := [.int 1]) (rest := []) (m_closesSums1 E l a cd hG kf jn js jq wl14 hWl14 tp px le cx wx sm lm nz ⟨v73, v74, v75, v76, v77, v78, n79, n80, ⟨by omega, by omega, by omega, by omega, by omega, by omega, by omega⟩, ⟨by omega, by omega⟩, k83⟩ fx iv14_2 gx iv14_3 Ws W iv14_4 iv14_5 hno c0 h iv14_6 (by omega) (by omega) (by omega)) mf_X12_closesSums w_1359 0 k83 rfl rfl rfl (Nat.le_of_ble_eq_true rfl) ⟨(Nat.le_of_ble_eq_true rfl), (Nat.le_of_ble_eq_true rfl)⟩ ⟨(Nat.le_of_ble_eq_true rfl), (Nat.le_of_ble_eq_true rfl)⟩ dX12_readsSum_158 rfl (fun w188 h186 => ?_)
                obtain ⟨hW189, kq190, x191⟩ := h186
                have k192 : w188[4]? = some (bA E (a 4) 260 tf) := keeps_at kq190 iv14_1 (by first | decide | omega | (dsimp only; omega))
                have k193 : w188[6]? = some (iA E (a 6) 260 gx) := keeps_at kq190 iv14_3 (by first | decide | omega | (dsimp only; omega))
                have kp194 := keeps_tr kq14 kq190 (fun q hq => by first | omega | (dsimp only at *; omega))
                obtain ⟨cm195, wt196, fs197, Wd198, We199, hc200, hc201, hc202, hc203, hc204, hc205, hc206, hc207, hc208, hc209, hc210⟩ := x191
                obtain ⟨v211, v212, v213, v214, v215, v216, n217, n218, bo219, bo220, k221⟩ := hc204
                rcases hc210 with q9 | ⟨e, W1, q9, he14⟩
                rotate_left
                · exact (all14 (q9 ▸ hc200) (x184.2 c185) he14).elim
                subst q9
                have hwq : wt196 = wt := (wR_len hc202).symm.trans (wR_len hwr)
                refine x_iconst C (v := 1) dX12_readsSum_161 (by decide) rfl ?_
                exact x_zret C hr hlk rfl dX12_readsSum_162 ⟨hW189, kp194, (Or.inr rfl), (Or.inr ⟨rfl, px, cm195, _, _, by omega, by omega, hwq ▸ hc202, ⟨⟨_, hwq ▸ (show MO a cd kf w188 tp px le cm195 wt196 sm lm nz from ⟨v211, v212, v213, v214, v215, v216, n217, n218, ⟨by omega, by omega, by omega, by omega, by omega, by omega, by omega⟩, ⟨by omega, by omega⟩, k221⟩)⟩, hc205, k193⟩, hc206, by have q8 : wgt ([] ++ W) = wgt W := rfl; omega, fun k hk => (hc208 k hk).trans (iv14_8 k hk)⟩)⟩
              · skip
                have h14222 := x184.1 c185
                refine x_aload_n C dX12_readsSum_146 rfl 1 rfl rfl ?_
                refine x_iconst C (v := 1) dX12_readsSum_147 (by decide) rfl ?_
                refine x_aload_n C dX12_readsSum_148 rfl 1 rfl rfl ?_
                refine x_get C (ci := 11) (k := 5) 0 k83 rfl in_X12 (by decide) w_1123 rfl dX12_readsSum_149 rfl ?_
                refine x_vi C (As := [.int 1, .int (nI px)]) (rest := []) (m_wrongAt E l a cd hG kf jn js jq wl14 hWl14 (1 : Int32) ((nI px)) tp px le cx wx sm lm nz ⟨v73, v74, v75, v76, v77, v78, n79, n80, ⟨by omega, by omega, by omega, by omega, by omega, by omega, by omega⟩, ⟨by omega, by omega⟩, k83⟩) mf_X12_wrongAt w_1324 0 k83 rfl rfl rfl (Nat.le_of_ble_eq_true rfl) ⟨(Nat.le_of_ble_eq_true rfl), (Nat.le_of_ble_eq_true rfl)⟩ ⟨(Nat.le_of_ble_eq_true rfl), (Nat.le_of_ble_eq_true rfl)⟩ dX12_readsSum_152 rfl (fun r224 w225 h223 => ?_)
                obtain ⟨hW226, kq227, e228, x229⟩ := h223
                refine x_top e228 ?_
                have k230 : w225[4]? = some (bA E (a 4) 260 tf) := keeps_at kq227 iv14_1 (by first | decide | omega | (dsimp only; omega))
                have k231 : w225[5]? = some (iA E (a 5) 260 fx) := keeps_at kq227 iv14_2 (by first | decide | omega | (dsimp only; omega))
                have k232 : w225[6]? = some (iA E (a 6) 260 gx) := keeps_at kq227 iv14_3 (by first | decide | omega | (dsimp only; omega))
                have kp233 := keeps_tr kq14 kq227 (fun q hq => by first | omega | (dsimp only at *; omega))
                obtain ⟨v234, v235, v236, v237, v238, v239, n240, n241, bo242, bo243, k244⟩ := x229
                exact x_zret C hr hlk rfl dX12_readsSum_155 ⟨hW226, kp233, (Or.inl rfl), (Or.inl ⟨rfl, ⟨px, cx, wx, _, _, ⟨⟨_, ⟨v234, v235, v236, v237, v238, v239, n240, n241, ⟨by omega, by omega, by omega, by omega, by omega, by omega, by omega⟩, ⟨by omega, by omega⟩, k244⟩⟩, k231, k232⟩⟩⟩)⟩
            · skip
              have h14245 := x177.1 c178
              refine x_aload_n C dX12_readsSum_100 rfl 1 rfl rfl ?_
              refine x_iconst C (v := 1) dX12_readsSum_101 (by decide) rfl ?_
              refine x_vv C (As := [.int 1]) (rest := []) (m_closesSums1 E l a cd hG kf jn js jq wl14 hWl14 tp px le cx wx sm lm nz ⟨v73, v74, v75, v76, v77, v78, n79, n80, ⟨by omega, by omega, by omega, by omega, by omega, by omega, by omega⟩, ⟨by omega, by omega⟩, k83⟩ fx iv14_2 gx iv14_3 Ws W iv14_4 iv14_5 hno c0 h iv14_6 (by omega) (by omega) (by omega)) mf_X12_closesSums w_1359 0 k83 rfl rfl rfl (Nat.le_of_ble_eq_true rfl) ⟨(Nat.le_of_ble_eq_true rfl), (Nat.le_of_ble_eq_true rfl)⟩ ⟨(Nat.le_of_ble_eq_true rfl), (Nat.le_of_ble_eq_true rfl)⟩ dX12_readsSum_102 rfl (fun w248 h246 => ?_)
              obtain ⟨hW249, kq250, x251⟩ := h246
              have k252 : w248[4]? = some (bA E (a 4) 260 tf) := keeps_at kq250 iv14_1 (by first | decide | omega | (dsimp only; omega))
              have k253 : w248[6]? = some (iA E (a 6) 260 gx) := keeps_at kq250 iv14_3 (by first | decide | omega | (dsimp only; omega))
              have kp254 := keeps_tr kq14 kq250 (fun q hq => by first | omega | (dsimp only at *; omega))
              obtain ⟨cm255, wt256, fs257, Wd258, We259, hc260, hc261, hc262, hc263, hc264, hc265, hc266, hc267, hc268, hc269, hc270⟩ := x251
              obtain ⟨v271, v272, v273, v274, v275, v276, n277, n278, bo279, bo280, k281⟩ := hc264
              rcases hc270 with q9 | ⟨e, W1, q9, he14⟩
              · exact (no14 (q9 ▸ hc260) hc261 h14245).elim
              subst q9
              have hw1 := hc262.1
              have hpe : pend (e :: W1) = pend W1 := by show pd1 e.1 + pend W1 = _; rw [pd1_0 (by omega)]; omega
              have hwe : wgt (e :: W1 ++ W) = wgt (W1 ++ W) := by show wg1 e.1 + wgt (W1 ++ W) = _; rw [wg1_0 (by omega)]; omega
              refine x_aload_n C dX12_readsSum_105 rfl 1 rfl rfl ?_
              refine x_aload_n C dX12_readsSum_106 rfl 1 rfl rfl ?_
              refine x_get C (ci := 11) (k := 11) 0 k281 rfl in_X12 (by decide) w_1129 rfl dX12_readsSum_107 rfl ?_
              refine x_iconst C (v := 1) dX12_readsSum_110 (by decide) rfl ?_
              refine x_isub C (v := (nI (wt256 - 1))) dX12_readsSum_111 (pk_sub (a := wt256) (b := 1) (by omega)) rfl ?_
              obtain ⟨w282, hw283⟩ : ∃ w : va_W, w = List.set w248 0 (ob (a 0) 11 [.ref (a 1), .ref (a 2), .ref (a 3), .ref (a 4), .int (nI tp), .int (nI px), .int (nI le), .int v271, .int nz, .int v272, .int (nI cm255), .int (nI (wt256 - 1)), .int (nI sm), .int (nI (cd.2.2.2.2.2)), .ref (a 5), .ref (a 6), .ref (a 7), .ref (a 8), .ref (a 9), .ref (a 10), .ref (a 11), .ref (a 12), .ref (a 13), .ref (a 14), .ref (a 15), .ref (a 16), .ref (a 17), .int (nI lm), .ref (a 18), .ref (a 19), .ref (a 20), .ref (a 21), .int v273, .int v274, .int v275, .int v276, .int (nI n277), .int (nI n278), .ref (a 22), .ref (a 23), .ref (a 24), .ref (a 25), .ref (a 26), .ref (a 27), .ref (a 28), .ref (a 29), .ref (a 30), .int kf]) := ⟨_, rfl⟩
              refine x_put C (ci := 11) (k := 11) (ty := .int) 0 k281 rfl in_X12 tyX12 tyX12_ok nmX12 (by decide) w_1129 rfl rfl rfl rfl (Nat.le_of_ble_eq_true rfl) hw283.symm dX12_readsSum_112 rfl ?_
              have hW284 : WX (okM E a cd kf jn js jq) w282 := by rw [hw283]; exact hW249.set (k := 0) rfl ⟨tp, px, le, v271, nz, v272, cm255, (wt256 - 1), sm, lm, v273, v274, v275, v276, n277, n278, by omega, by omega, by omega, by omega, by omega, by omega, by omega, by omega, by omega, rfl⟩
              have k285 : w282[4]? = some (bA E (a 4) 260 tf) := by rw [hw283]; exact set_ne k252 (by decide)
              have k286 : w282[6]? = some (iA E (a 6) 260 gx) := by rw [hw283]; exact set_ne k253 (by decide)
              have k287 : w282[0]? = some (ob (a 0) 11 [.ref (a 1), .ref (a 2), .ref (a 3), .ref (a 4), .int (nI tp), .int (nI px), .int (nI le), .int v271, .int nz, .int v272, .int (nI cm255), .int (nI (wt256 - 1)), .int (nI sm), .int (nI (cd.2.2.2.2.2)), .ref (a 5), .ref (a 6), .ref (a 7), .ref (a 8), .ref (a 9), .ref (a 10), .ref (a 11), .ref (a 12), .ref (a 13), .ref (a 14), .ref (a 15), .ref (a 16), .ref (a 17), .int (nI lm), .ref (a 18), .ref (a 19), .ref (a 20), .ref (a 21), .int v273, .int v274, .int v275, .int v276, .int (nI n277), .int (nI n278), .ref (a 22), .ref (a 23), .ref (a 24), .ref (a 25), .ref (a 26), .ref (a 27), .ref (a 28), .ref (a 29), .ref (a 30), .int kf]) := by rw [hw283]; exact set_eq k281
              have k288 : w282[5]? = some (iA E (a 5) 260 fs257) := by rw [hw283]; exact set_ne hc265 (by decide)
              have kp289 := keeps_set kp254 hw283 (by first | exact rfl | decide | omega | (dsimp only; omega))
              refine x_aload_n C dX12_readsSum_115 rfl 1 rfl rfl ?_
              refine x_aload_n C dX12_readsSum_116 rfl 1 rfl rfl ?_
              refine x_get C (ci := 11) (k := 9) 0 k287 rfl in_X12 (by decide) w_1127 rfl dX12_readsSum_117 rfl ?_
              refine x_iconst C (v := 1) dX12_readsSum_120 (by decide) rfl ?_
              refine x_isub C (v := (v272 - (1 : Int32))) dX12_readsSum_121 rfl rfl ?_
              refine x_any (fun v290 => ?_)
              obtain ⟨w291, hw292⟩ : ∃ w : va_W, w = List.set w282 0 (ob (a 0) 11 [.ref (a 1), .ref (a 2), .ref (a 3), .ref (a 4), .int (nI tp), .int (nI px), .int (nI le), .int v271, .int nz, .int v290, .int (nI cm255), .int (nI (wt256 - 1)), .int (nI sm), .int (nI (cd.2.2.2.2.2)), .ref (a 5), .ref (a 6), .ref (a 7), .ref (a 8), .ref (a 9), .ref (a 10), .ref (a 11), .ref (a 12), .ref (a 13), .ref (a 14), .ref (a 15), .ref (a 16), .ref (a 17), .int (nI lm), .ref (a 18), .ref (a 19), .ref (a 20), .ref (a 21), .int v273, .int v274, .int v275, .int v276, .int (nI n277), .int (nI n278), .ref (a 22), .ref (a 23), .ref (a 24), .ref (a 25), .ref (a 26), .ref (a 27), .ref (a 28), .ref (a 29), .ref (a 30), .int kf]) := ⟨_, rfl⟩
              refine x_put C (ci := 11) (k := 9) (ty := .int) 0 k287 rfl in_X12 tyX12 tyX12_ok nmX12 (by decide) w_1127 rfl rfl rfl rfl (Nat.le_of_ble_eq_true rfl) hw292.symm dX12_readsSum_122 rfl ?_
              have hW293 : WX (okM E a cd kf jn js jq) w291 := by rw [hw292]; exact hW284.set (k := 0) rfl ⟨tp, px, le, v271, nz, v290, cm255, (wt256 - 1), sm, lm, v273, v274, v275, v276, n277, n278, by omega, by omega, by omega, by omega, by omega, by omega, by omega, by omega, by omega, rfl⟩
              have k294 : w291[4]? = some (bA E (a 4) 260 tf) := by rw [hw292]; exact set_ne k285 (by decide)
              have k295 : w291[6]? = some (iA E (a 6) 260 gx) := by rw [hw292]; exact set_ne k286 (by decide)
              have k296 : w291[0]? = some (ob (a 0) 11 [.ref (a 1), .ref (a 2), .ref (a 3), .ref (a 4), .int (nI tp), .int (nI px), .int (nI le), .int v271, .int nz, .int v290, .int (nI cm255), .int (nI (wt256 - 1)), .int (nI sm), .int (nI (cd.2.2.2.2.2)), .ref (a 5), .ref (a 6), .ref (a 7), .ref (a 8), .ref (a 9), .ref (a 10), .ref (a 11), .ref (a 12), .ref (a 13), .ref (a 14), .ref (a 15), .ref (a 16), .ref (a 17), .int (nI lm), .ref (a 18), .ref (a 19), .ref (a 20), .ref (a 21), .int v273, .int v274, .int v275, .int v276, .int (nI n277), .int (nI n278), .ref (a 22), .ref (a 23), .ref (a 24), .ref (a 25), .ref (a 26), .ref (a 27), .ref (a 28), .ref (a 29), .ref (a 30), .int kf]) := by rw [hw292]; exact set_eq k287
              have k297 : w291[5]? = some (iA E (a 5) 260 fs257) := by rw [hw292]; exact set_ne k288 (by decide)
              have kp298 := keeps_set kp289 hw292 (by first | exact rfl | decide | omega | (dsimp only; omega))
              refine x_aload_n C dX12_readsSum_125 rfl 1 rfl rfl ?_
              refine x_aload_n C dX12_readsSum_126 rfl 1 rfl rfl ?_
              refine x_get C (ci := 11) (k := 5) 0 k296 rfl in_X12 (by decide) w_1123 rfl dX12_readsSum_127 rfl ?_
              refine x_iconst C (v := 1) dX12_readsSum_130 (by decide) rfl ?_
              refine x_iadd C (v := (nI (px + 1))) dX12_readsSum_131 (nI_add px 1) rfl ?_
              obtain ⟨w299, hw300⟩ : ∃ w : va_W, w = List.set w291 0 (ob (a 0) 11 [.ref (a 1), .ref (a 2), .ref (a 3), .ref (a 4), .int (nI tp), .int (nI (px + 1)), .int (nI le), .int v271, .int nz, .int v290, .int (nI cm255), .int (nI (wt256 - 1)), .int (nI sm), .int (nI (cd.2.2.2.2.2)), .ref (a 5), .ref (a 6), .ref (a 7), .ref (a 8), .ref (a 9), .ref (a 10), .ref (a 11), .ref (a 12), .ref (a 13), .ref (a 14), .ref (a 15), .ref (a 16), .ref (a 17), .int (nI lm), .ref (a 18), .ref (a 19), .ref (a 20), .ref (a 21), .int v273, .int v274, .int v275, .int v276, .int (nI n277), .int (nI n278), .ref (a 22), .ref (a 23), .ref (a 24), .ref (a 25), .ref (a 26), .ref (a 27), .ref (a 28), .ref (a 29), .ref (a 30), .int kf]) := ⟨_, rfl⟩
              refine x_put C (ci := 11) (k := 5) (ty := .int) 0 k296 rfl in_X12 tyX12 tyX12_ok nmX12 (by decide) w_1123 rfl rfl rfl rfl (Nat.le_of_ble_eq_true rfl) hw300.symm dX12_readsSum_132 rfl ?_
              have hW301 : WX (okM E a cd kf jn js jq) w299 := by rw [hw300]; exact hW293.set (k := 0) rfl ⟨tp, (px + 1), le, v271, nz, v290, cm255, (wt256 - 1), sm, lm, v273, v274, v275, v276, n277, n278, by omega, by omega, by omega, by omega, by omega, by omega, by omega, by omega, by omega, rfl⟩
              have k302 : w299[4]? = some (bA E (a 4) 260 tf) := by rw [hw300]; exact set_ne k294 (by decide)
              have k303 : w299[6]? = some (iA E (a 6) 260 gx) := by rw [hw300]; exact set_ne k295 (by decide)
              have k304 : w299[0]? = some (ob (a 0) 11 [.ref (a 1), .ref (a 2), .ref (a 3), .ref (a 4), .int (nI tp), .int (nI (px + 1)), .int (nI le), .int v271, .int nz, .int v290, .int (nI cm255), .int (nI (wt256 - 1)), .int (nI sm), .int (nI (cd.2.2.2.2.2)), .ref (a 5), .ref (a 6), .ref (a 7), .ref (a 8), .ref (a 9), .ref (a 10), .ref (a 11), .ref (a 12), .ref (a 13), .ref (a 14), .ref (a 15), .ref (a 16), .ref (a 17), .int (nI lm), .ref (a 18), .ref (a 19), .ref (a 20), .ref (a 21), .int v273, .int v274, .int v275, .int v276, .int (nI n277), .int (nI n278), .ref (a 22), .ref (a 23), .ref (a 24), .ref (a 25), .ref (a 26), .ref (a 27), .ref (a 28), .ref (a 29), .ref (a 30), .int kf]) := by rw [hw300]; exact set_eq k296
              have k305 : w299[5]? = some (iA E (a 5) 260 fs257) := by rw [hw300]; exact set_ne k297 (by decide)
              have kp306 := keeps_set kp298 hw300 (by first | exact rfl | decide | omega | (dsimp only; omega))
              refine x_goto C (tgt := 163) dX12_readsSum_135 (by decide) ?_
              refine x_goto C (tgt := 14) dX12_readsSum_163 (by decide) ?_
              refine x_lv (lv1 := [(0, .ref (a 0)), (1, .int (nI wt))]) [1, 2] rfl ?_
              exact ih14 (px + 1) cm255 (wt256 - 1) nz fs257 gx W1 w299 hW301 (by omega) ⟨v271, v290, v273, v274, v275, v276, n277, n278, ⟨by omega, by omega, by omega, by omega, by omega, by omega, by omega⟩, ⟨by omega, by omega⟩, k304⟩ k302 k305 k303 hc262.2.2.2.2 (sOps_hd hc269).2 (CI_pop (hpe ▸ hc266) (nJ ⟨by omega, by omega⟩)) (by omega) (fun k hk => (hc268 k hk).trans (iv14_8 k hk)) kp306
        · refine x_top en97 ?_
          have hp307 := hv_lt (x88.symm) hm98
          refine x_istore_n C (lv' := [(2, .int (nI n95)), (0, .ref (a 0)), (1, .int (nI wt))]) dX12_readsSum_21 rfl (by decide) rfl rfl ?_
          refine x_iload_n C dX12_readsSum_22 rfl 0 rfl rfl ?_
          refine x_iconst C (v := (-1)) dX12_readsSum_23 (by decide) rfl ?_
          refine x_icmp_eq C (tgt := 83) dX12_readsSum_24 (by decide) rfl (fun h => absurd h (nI_nm1 (by omega))) (fun _ => ?_)
          refine x_aload_n C dX12_readsSum_27 rfl 1 rfl rfl ?_
          refine x_iload_n C dX12_readsSum_28 rfl 0 rfl rfl ?_
          refine x_iconst C (v := 4) dX12_readsSum_29 (by decide) rfl ?_
          refine x_icmp_ge C (tgt := 37) dX12_readsSum_30 (by decide) rfl (fun c308 => ?_) (fun c308 => ?_)
          · skip
            have nf309 := nI_le' (a := 4) (b := n95) c308 (by omega) (by omega)
            refine x_iconst C (v := 0) dX12_readsSum_37 (by decide) rfl ?_
            refine x_vv C (As := [.int 0]) (rest := []) (m_closesSums0 E l a cd hG kf jn js jq wl14 hWl14 tp px le cx wx sm lm nz ⟨v73, v74, v75, v76, v77, v78, n79, n80, ⟨by omega, by omega, by omega, by omega, by omega, by omega, by omega⟩, ⟨by omega, by omega⟩, k83⟩ fx iv14_2 gx iv14_3 Ws W iv14_4 iv14_5 hno c0 h iv14_6 (by omega) (by omega) (by omega)) mf_X12_closesSums w_1359 0 k83 rfl rfl rfl (Nat.le_of_ble_eq_true rfl) ⟨(Nat.le_of_ble_eq_true rfl), (Nat.le_of_ble_eq_true rfl)⟩ ⟨(Nat.le_of_ble_eq_true rfl), (Nat.le_of_ble_eq_true rfl)⟩ dX12_readsSum_38 rfl (fun w312 h310 => ?_)
            obtain ⟨hW313, kq314, x315⟩ := h310
            have k316 : w312[4]? = some (bA E (a 4) 260 tf) := keeps_at kq314 iv14_1 (by first | decide | omega | (dsimp only; omega))
            have k317 : w312[6]? = some (iA E (a 6) 260 gx) := keeps_at kq314 iv14_3 (by first | decide | omega | (dsimp only; omega))
            have kp318 := keeps_tr kq14 kq314 (fun q hq => by first | omega | (dsimp only at *; omega))
            obtain ⟨cm319, wt320, fs321, Wd322, We323, hc324, hc325, hc326, hc327, hc328, hc329, hc330, hc331, hc332, hc333⟩ := x315
            obtain ⟨v334, v335, v336, v337, v338, v339, n340, n341, bo342, bo343, k344⟩ := hc328
            refine x_aload_n C dX12_readsSum_41 rfl 1 rfl rfl ?_
            refine x_get C (ci := 11) (k := 15) 0 k344 rfl in_X12 (by decide) w_1133 rfl dX12_readsSum_42 rfl ?_
            refine x_aload_n C dX12_readsSum_45 rfl 1 rfl rfl ?_
            refine x_get C (ci := 11) (k := 11) 0 k344 rfl in_X12 (by decide) w_1129 rfl dX12_readsSum_46 rfl ?_
            refine x_ldc C w_1340 dX12_readsSum_49 rfl ?_
            refine x_iload_n C dX12_readsSum_51 rfl 0 rfl rfl ?_
            refine x_imul C (v := (nI (1048576 * n95))) dX12_readsSum_52 (pk_mul 1048576 n95) rfl ?_
            obtain ⟨w345, hw346⟩ : ∃ w : va_W, w = List.set w312 6 (iA E (a 6) 260 (upd gx wt320 (nI (1048576 * n95)))) := ⟨_, rfl⟩
            refine x_iask C wt320 (nI_clamp (by omega)) (nI_pos (by omega)) (by omega) 6 k317 hw346.symm dX12_readsSum_53 rfl ?_
            have hW347 : WX (okM E a cd kf jn js jq) w345 := by rw [hw346]; exact hW313.set (k := 6) rfl ⟨_, rfl⟩
            have k348 : w345[4]? = some (bA E (a 4) 260 tf) := by rw [hw346]; exact set_ne k316 (by decide)
            have k349 : w345[6]? = some (iA E (a 6) 260 (upd gx wt320 (nI (1048576 * n95)))) := by rw [hw346]; exact set_eq k317
            have k350 : w345[0]? = some (ob (a 0) 11 [.ref (a 1), .ref (a 2), .ref (a 3), .ref (a 4), .int (nI tp), .int (nI px), .int (nI le), .int v334, .int nz, .int v335, .int (nI cm319), .int (nI wt320), .int (nI sm), .int (nI (cd.2.2.2.2.2)), .ref (a 5), .ref (a 6), .ref (a 7), .ref (a 8), .ref (a 9), .ref (a 10), .ref (a 11), .ref (a 12), .ref (a 13), .ref (a 14), .ref (a 15), .ref (a 16), .ref (a 17), .int (nI lm), .ref (a 18), .ref (a 19), .ref (a 20), .ref (a 21), .int v336, .int v337, .int v338, .int v339, .int (nI n340), .int (nI n341), .ref (a 22), .ref (a 23), .ref (a 24), .ref (a 25), .ref (a 26), .ref (a 27), .ref (a 28), .ref (a 29), .ref (a 30), .int kf]) := by rw [hw346]; exact set_ne k344 (by decide)
            have k351 : w345[5]? = some (iA E (a 5) 260 fs321) := by rw [hw346]; exact set_ne hc329 (by decide)
            have kp352 := keeps_set kp318 hw346 (by first | exact rfl | decide | omega | (dsimp only; omega))
            refine x_aload_n C dX12_readsSum_54 rfl 1 rfl rfl ?_
            refine x_aload_n C dX12_readsSum_55 rfl 1 rfl rfl ?_
            refine x_get C (ci := 11) (k := 11) 0 k350 rfl in_X12 (by decide) w_1129 rfl dX12_readsSum_56 rfl ?_
            refine x_iconst C (v := 1) dX12_readsSum_59 (by decide) rfl ?_
            refine x_iadd C (v := (nI (wt320 + 1))) dX12_readsSum_60 (nI_add wt320 1) rfl ?_
            obtain ⟨w353, hw354⟩ : ∃ w : va_W, w = List.set w345 0 (ob (a 0) 11 [.ref (a 1), .ref (a 2), .ref (a 3), .ref (a 4), .int (nI tp), .int (nI px), .int (nI le), .int v334, .int nz, .int v335, .int (nI cm319), .int (nI (wt320 + 1)), .int (nI sm), .int (nI (cd.2.2.2.2.2)), .ref (a 5), .ref (a 6), .ref (a 7), .ref (a 8), .ref (a 9), .ref (a 10), .ref (a 11), .ref (a 12), .ref (a 13), .ref (a 14), .ref (a 15), .ref (a 16), .ref (a 17), .int (nI lm), .ref (a 18), .ref (a 19), .ref (a 20), .ref (a 21), .int v336, .int v337, .int v338, .int v339, .int (nI n340), .int (nI n341), .ref (a 22), .ref (a 23), .ref (a 24), .ref (a 25), .ref (a 26), .ref (a 27), .ref (a 28), .ref (a 29), .ref (a 30), .int kf]) := ⟨_, rfl⟩
            refine x_put C (ci := 11) (k := 11) (ty := .int) 0 k350 rfl in_X12 tyX12 tyX12_ok nmX12 (by decide) w_1129 rfl rfl rfl rfl (Nat.le_of_ble_eq_true rfl) hw354.symm dX12_readsSum_61 rfl ?_
            have hW355 : WX (okM E a cd kf jn js jq) w353 := by rw [hw354]; exact hW347.set (k := 0) rfl ⟨tp, px, le, v334, nz, v335, cm319, (wt320 + 1), sm, lm, v336, v337, v338, v339, n340, n341, by omega, by omega, by omega, by omega, by omega, by omega, by omega, by omega, by omega, rfl⟩
            have k356 : w353[4]? = some (bA E (a 4) 260 tf) := by rw [hw354]; exact set_ne k348 (by decide)
            have k357 : w353[6]? = some (iA E (a 6) 260 (upd gx wt320 (nI (1048576 * n95)))) := by rw [hw354]; exact set_ne k349 (by decide)
            have k358 : w353[0]? = some (ob (a 0) 11 [.ref (a 1), .ref (a 2), .ref (a 3), .ref (a 4), .int (nI tp), .int (nI px), .int (nI le), .int v334, .int nz, .int v335, .int (nI cm319), .int (nI (wt320 + 1)), .int (nI sm), .int (nI (cd.2.2.2.2.2)), .ref (a 5), .ref (a 6), .ref (a 7), .ref (a 8), .ref (a 9), .ref (a 10), .ref (a 11), .ref (a 12), .ref (a 13), .ref (a 14), .ref (a 15), .ref (a 16), .ref (a 17), .int (nI lm), .ref (a 18), .ref (a 19), .ref (a 20), .ref (a 21), .int v336, .int v337, .int v338, .int v339, .int (nI n340), .int (nI n341), .ref (a 22), .ref (a 23), .ref (a 24), .ref (a 25), .ref (a 26), .ref (a 27), .ref (a 28), .ref (a 29), .ref (a 30), .int kf]) := by rw [hw354]; exact set_eq k350
            have k359 : w353[5]? = some (iA E (a 5) 260 fs321) := by rw [hw354]; exact set_ne k351 (by decide)
            have kp360 := keeps_set kp352 hw354 (by first | exact rfl | decide | omega | (dsimp only; omega))
            refine x_aload_n C dX12_readsSum_64 rfl 1 rfl rfl ?_
            refine x_aload_n C dX12_readsSum_65 rfl 1 rfl rfl ?_
            refine x_get C (ci := 11) (k := 5) 0 k358 rfl in_X12 (by decide) w_1123 rfl dX12_readsSum_66 rfl ?_
            refine x_iconst C (v := 1) dX12_readsSum_69 (by decide) rfl ?_
            refine x_iadd C (v := (nI (px + 1))) dX12_readsSum_70 (nI_add px 1) rfl ?_
            obtain ⟨w361, hw362⟩ : ∃ w : va_W, w = List.set w353 0 (ob (a 0) 11 [.ref (a 1), .ref (a 2), .ref (a 3), .ref (a 4), .int (nI tp), .int (nI (px + 1)), .int (nI le), .int v334, .int nz, .int v335, .int (nI cm319), .int (nI (wt320 + 1)), .int (nI sm), .int (nI (cd.2.2.2.2.2)), .ref (a 5), .ref (a 6), .ref (a 7), .ref (a 8), .ref (a 9), .ref (a 10), .ref (a 11), .ref (a 12), .ref (a 13), .ref (a 14), .ref (a 15), .ref (a 16), .ref (a 17), .int (nI lm), .ref (a 18), .ref (a 19), .ref (a 20), .ref (a 21), .int v336, .int v337, .int v338, .int v339, .int (nI n340), .int (nI n341), .ref (a 22), .ref (a 23), .ref (a 24), .ref (a 25), .ref (a 26), .ref (a 27), .ref (a 28), .ref (a 29), .ref (a 30), .int kf]) := ⟨_, rfl⟩
            refine x_put C (ci := 11) (k := 5) (ty := .int) 0 k358 rfl in_X12 tyX12 tyX12_ok nmX12 (by decide) w_1123 rfl rfl rfl rfl (Nat.le_of_ble_eq_true rfl) hw362.symm dX12_readsSum_71 rfl ?_
            have hW363 : WX (okM E a cd kf jn js jq) w361 := by rw [hw362]; exact hW355.set (k := 0) rfl ⟨tp, (px + 1), le, v334, nz, v335, cm319, (wt320 + 1), sm, lm, v336, v337, v338, v339, n340, n341, by omega, by omega, by omega, by omega, by omega, by omega, by omega, by omega, by omega, rfl⟩
            have k364 : w361[4]? = some (bA E (a 4) 260 tf) := by rw [hw362]; exact set_ne k356 (by decide)
            have k365 : w361[6]? = some (iA E (a 6) 260 (upd gx wt320 (nI (1048576 * n95)))) := by rw [hw362]; exact set_ne k357 (by decide)
            have k366 : w361[0]? = some (ob (a 0) 11 [.ref (a 1), .ref (a 2), .ref (a 3), .ref (a 4), .int (nI tp), .int (nI (px + 1)), .int (nI le), .int v334, .int nz, .int v335, .int (nI cm319), .int (nI (wt320 + 1)), .int (nI sm), .int (nI (cd.2.2.2.2.2)), .ref (a 5), .ref (a 6), .ref (a 7), .ref (a 8), .ref (a 9), .ref (a 10), .ref (a 11), .ref (a 12), .ref (a 13), .ref (a 14), .ref (a 15), .ref (a 16), .ref (a 17), .int (nI lm), .ref (a 18), .ref (a 19), .ref (a 20), .ref (a 21), .int v336, .int v337, .int v338, .int v339, .int (nI n340), .int (nI n341), .ref (a 22), .ref (a 23), .ref (a 24), .ref (a 25), .ref (a 26), .ref (a 27), .ref (a 28), .ref (a 29), .ref (a 30), .int kf]) := by rw [hw362]; exact set_eq k358
            have k367 : w361[5]? = some (iA E (a 5) 260 fs321) := by rw [hw362]; exact set_ne k359 (by decide)
            have kp368 := keeps_set kp360 hw362 (by first | exact rfl | decide | omega | (dsimp only; omega))
            have hq369 := pend_len (W := We323)
            have hq370 := len_app hc326
            have hq371 : wgt ((n95, 0) :: (We323 ++ W)) = 1 + wgt (We323 ++ W) := by show wg1 n95 + wgt (We323 ++ W) = _; rw [wg1_1 (Or.inl (by omega))]
            refine x_aload_n C dX12_readsSum_74 rfl 1 rfl rfl ?_
            refine x_vi C (As := []) (rest := []) (m_readsFactor E l a cd hG kf jn js jq w361 hW363 tp (px + 1) le cm319 (wt320 + 1) sm lm nz ⟨v334, v335, v336, v337, v338, v339, n340, n341, ⟨by omega, by omega, by omega, by omega, by omega, by omega, by omega⟩, ⟨by omega, by omega⟩, k366⟩ tf k364 (by omega) fs321 k367 ((upd gx wt320 (nI (1048576 * n95)))) k365 ((n95, 0) :: (We323 ++ W)) (wR_push (op := n95) (pay := 0) hc326 (by omega) (by omega)) c0 (h + 1 + pend We323) (CI_push (e := (n95, 0)) hc330 (nJ ⟨by show n95 ≠ 11; omega, by show n95 ≠ 12; omega⟩)) (by omega) sg (by omega) (by omega)) mf_X12_readsFactor w_1332 0 k366 rfl rfl rfl (Nat.le_of_ble_eq_true rfl) ⟨(Nat.le_of_ble_eq_true rfl), (Nat.le_of_ble_eq_true rfl)⟩ ⟨(Nat.le_of_ble_eq_true rfl), (Nat.le_of_ble_eq_true rfl)⟩ dX12_readsSum_75 rfl (fun r373 w374 h372 => ?_)
            obtain ⟨hW375, kq376, zb377, x378⟩ := h372
            have k379 : w374[4]? = some (bA E (a 4) 260 tf) := keeps_at kq376 k364 (by first | decide | omega | (dsimp only; omega))
            have kp380 := keeps_tr kp368 kq376 (fun q hq => by first | omega | (dsimp only at *; omega))
            rcases x378 with ⟨e381, rf382⟩ | ⟨e383, pl384, wt385, x386, fw387, Wn388, hf389, hf390, hf391, hf392, hf393, hf394, hf395, hf396⟩
            · refine x_top e381 ?_
              obtain ⟨pl397, cm398, wt399, fs400, fw401, rs402⟩ := rf382
              obtain ⟨⟨nu403, mo404⟩, k405, k406⟩ := rs402
              obtain ⟨v407, v408, v409, v410, v411, v412, n413, n414, bo415, bo416, k417⟩ := mo404
              refine x_if_ne C (tgt := 163) dX12_readsSum_78 (by decide) rfl (fun h => absurd h (by decide)) (fun _ => ?_)
              refine x_iconst C (v := 0) dX12_readsSum_81 (by decide) rfl ?_
              exact x_zret C hr hlk rfl dX12_readsSum_82 ⟨hW375, kp380, (Or.inl rfl), (Or.inl ⟨rfl, ⟨pl397, cm398, wt399, _, _, ⟨⟨_, ⟨v407, v408, v409, v410, v411, v412, n413, n414, ⟨by omega, by omega, by omega, by omega, by omega, by omega, by omega⟩, ⟨by omega, by omega⟩, k417⟩⟩, k405, k406⟩⟩⟩)⟩
            · refine x_top e383 ?_
              obtain ⟨⟨nu418, mo419⟩, k420, k421⟩ := hf393
              obtain ⟨v422, v423, v424, v425, v426, v427, n428, n429, bo430, bo431, k432⟩ := mo419
              refine x_if_ne C (tgt := 163) dX12_readsSum_78 (by decide) rfl (fun _ => ?_) (fun h => absurd h (by decide))
              refine x_goto C (tgt := 14) dX12_readsSum_163 (by decide) ?_
              refine x_lv (lv1 := [(0, .ref (a 0)), (1, .int (nI wt))]) [1, 2] rfl ?_
              exact ih14 pl384 (cm319 + 1) wt385 nu418 ((upd fs321 cm319 x386)) fw387 (Wn388 ++ (n95, 0) :: We323) w374 hW375 (by omega) ⟨v422, v423, v424, v425, v426, v427, n428, n429, ⟨by omega, by omega, by omega, by omega, by omega, by omega, by omega⟩, ⟨by omega, by omega⟩, k432⟩ k379 k420 k421 (by rw [asc3]; exact hf392) (sOps_app (pend14 hf391).2.2 (sOps_cons (e := (n95, 0)) (Or.inl ⟨by show 2 ≤ n95; omega, by show n95 ≤ 6; omega⟩) hc333)) (by rw [asc3, pend_app, (pend14 hf391).1, show pend ((n95, 0) :: We323) = 1 + pend We323 from by show pd1 n95 + pend We323 = _; rw [pd1_1 (by omega)], show h + 1 + (0 + (1 + pend We323)) = h + 1 + pend We323 + 1 from by omega]; exact hf394) (by rw [asc3, wgt_app, (pend14 hf391).2.1]; omega) (ag_upd (fun k hk => (hc332 k hk).trans (iv14_8 k hk)) (CI_le hc330)) kp380
          · skip
            have nf433 := nI_nle' (a := 4) (b := n95) c308 (by omega) (by omega)
            refine x_iconst C (v := 1) dX12_readsSum_33 (by decide) rfl ?_
            refine x_goto C (tgt := 38) dX12_readsSum_34 (by decide) ?_
            refine x_vv C (As := [.int 1]) (rest := []) (m_closesSums1 E l a cd hG kf jn js jq wl14 hWl14 tp px le cx wx sm lm nz ⟨v73, v74, v75, v76, v77, v78, n79, n80, ⟨by omega, by omega, by omega, by omega, by omega, by omega, by omega⟩, ⟨by omega, by omega⟩, k83⟩ fx iv14_2 gx iv14_3 Ws W iv14_4 iv14_5 hno c0 h iv14_6 (by omega) (by omega) (by omega)) mf_X12_closesSums w_1359 0 k83 rfl rfl rfl (Nat.le_of_ble_eq_true rfl) ⟨(Nat.le_of_ble_eq_true rfl), (Nat.le_of_ble_eq_true rfl)⟩ ⟨(Nat.le_of_ble_eq_true rfl), (Nat.le_of_ble_eq_true rfl)⟩ dX12_readsSum_38 rfl (fun w436 h434 => ?_)
            obtain ⟨hW437, kq438, x439⟩ := h434
            have k440 : w436[4]? = some (bA E (a 4) 260 tf) := keeps_at kq438 iv14_1 (by first | decide | omega | (dsimp only; omega))
            have k441 : w436[6]? = some (iA E (a 6) 260 gx) := keeps_at kq438 iv14_3 (by first | decide | omega | (dsimp only; omega))
            have kp442 := keeps_tr kq14 kq438 (fun q hq => by first | omega | (dsimp only at *; omega))
            obtain ⟨cm443, wt444, fs445, Wd446, We447, hc448, hc449, hc450, hc451, hc452, hc453, hc454, hc455, hc456, hc457, hc458⟩ := x439
            obtain ⟨v459, v460, v461, v462, v463, v464, n465, n466, bo467, bo468, k469⟩ := hc452
            refine x_aload_n C dX12_readsSum_41 rfl 1 rfl rfl ?_
            refine x_get C (ci := 11) (k := 15) 0 k469 rfl in_X12 (by decide) w_1133 rfl dX12_readsSum_42 rfl ?_
            refine x_aload_n C dX12_readsSum_45 rfl 1 rfl rfl ?_
            refine x_get C (ci := 11) (k := 11) 0 k469 rfl in_X12 (by decide) w_1129 rfl dX12_readsSum_46 rfl ?_
            refine x_ldc C w_1340 dX12_readsSum_49 rfl ?_
            refine x_iload_n C dX12_readsSum_51 rfl 0 rfl rfl ?_
            refine x_imul C (v := (nI (1048576 * n95))) dX12_readsSum_52 (pk_mul 1048576 n95) rfl ?_
            obtain ⟨w470, hw471⟩ : ∃ w : va_W, w = List.set w436 6 (iA E (a 6) 260 (upd gx wt444 (nI (1048576 * n95)))) := ⟨_, rfl⟩
            refine x_iask C wt444 (nI_clamp (by omega)) (nI_pos (by omega)) (by omega) 6 k441 hw471.symm dX12_readsSum_53 rfl ?_
            have hW472 : WX (okM E a cd kf jn js jq) w470 := by rw [hw471]; exact hW437.set (k := 6) rfl ⟨_, rfl⟩
            have k473 : w470[4]? = some (bA E (a 4) 260 tf) := by rw [hw471]; exact set_ne k440 (by decide)
            have k474 : w470[6]? = some (iA E (a 6) 260 (upd gx wt444 (nI (1048576 * n95)))) := by rw [hw471]; exact set_eq k441
            have k475 : w470[0]? = some (ob (a 0) 11 [.ref (a 1), .ref (a 2), .ref (a 3), .ref (a 4), .int (nI tp), .int (nI px), .int (nI le), .int v459, .int nz, .int v460, .int (nI cm443), .int (nI wt444), .int (nI sm), .int (nI (cd.2.2.2.2.2)), .ref (a 5), .ref (a 6), .ref (a 7), .ref (a 8), .ref (a 9), .ref (a 10), .ref (a 11), .ref (a 12), .ref (a 13), .ref (a 14), .ref (a 15), .ref (a 16), .ref (a 17), .int (nI lm), .ref (a 18), .ref (a 19), .ref (a 20), .ref (a 21), .int v461, .int v462, .int v463, .int v464, .int (nI n465), .int (nI n466), .ref (a 22), .ref (a 23), .ref (a 24), .ref (a 25), .ref (a 26), .ref (a 27), .ref (a 28), .ref (a 29), .ref (a 30), .int kf]) := by rw [hw471]; exact set_ne k469 (by decide)
            have k476 : w470[5]? = some (iA E (a 5) 260 fs445) := by rw [hw471]; exact set_ne hc453 (by decide)
            have kp477 := keeps_set kp442 hw471 (by first | exact rfl | decide | omega | (dsimp only; omega))
            refine x_aload_n C dX12_readsSum_54 rfl 1 rfl rfl ?_
            refine x_aload_n C dX12_readsSum_55 rfl 1 rfl rfl ?_
            refine x_get C (ci := 11) (k := 11) 0 k475 rfl in_X12 (by decide) w_1129 rfl dX12_readsSum_56 rfl ?_
            refine x_iconst C (v := 1) dX12_readsSum_59 (by decide) rfl ?_
            refine x_iadd C (v := (nI (wt444 + 1))) dX12_readsSum_60 (nI_add wt444 1) rfl ?_
            obtain ⟨w478, hw479⟩ : ∃ w : va_W, w = List.set w470 0 (ob (a 0) 11 [.ref (a 1), .ref (a 2), .ref (a 3), .ref (a 4), .int (nI tp), .int (nI px), .int (nI le), .int v459, .int nz, .int v460, .int (nI cm443), .int (nI (wt444 + 1)), .int (nI sm), .int (nI (cd.2.2.2.2.2)), .ref (a 5), .ref (a 6), .ref (a 7), .ref (a 8), .ref (a 9), .ref (a 10), .ref (a 11), .ref (a 12), .ref (a 13), .ref (a 14), .ref (a 15), .ref (a 16), .ref (a 17), .int (nI lm), .ref (a 18), .ref (a 19), .ref (a 20), .ref (a 21), .int v461, .int v462, .int v463, .int v464, .int (nI n465), .int (nI n466), .ref (a 22), .ref (a 23), .ref (a 24), .ref (a 25), .ref (a 26), .ref (a 27), .ref (a 28), .ref (a 29), .ref (a 30), .int kf]) := ⟨_, rfl⟩
            refine x_put C (ci := 11) (k := 11) (ty := .int) 0 k475 rfl in_X12 tyX12 tyX12_ok nmX12 (by decide) w_1129 rfl rfl rfl rfl (Nat.le_of_ble_eq_true rfl) hw479.symm dX12_readsSum_61 rfl ?_
            have hW480 : WX (okM E a cd kf jn js jq) w478 := by rw [hw479]; exact hW472.set (k := 0) rfl ⟨tp, px, le, v459, nz, v460, cm443, (wt444 + 1), sm, lm, v461, v462, v463, v464, n465, n466, by omega, by omega, by omega, by omega, by omega, by omega, by omega, by omega, by omega, rfl⟩
            have k481 : w478[4]? = some (bA E (a 4) 260 tf) := by rw [hw479]; exact set_ne k473 (by decide)
            have k482 : w478[6]? = some (iA E (a 6) 260 (upd gx wt444 (nI (1048576 * n95)))) := by rw [hw479]; exact set_ne k474 (by decide)
            have k483 : w478[0]? = some (ob (a 0) 11 [.ref (a 1), .ref (a 2), .ref (a 3), .ref (a 4), .int (nI tp), .int (nI px), .int (nI le), .int v459, .int nz, .int v460, .int (nI cm443), .int (nI (wt444 + 1)), .int (nI sm), .int (nI (cd.2.2.2.2.2)), .ref (a 5), .ref (a 6), .ref (a 7), .ref (a 8), .ref (a 9), .ref (a 10), .ref (a 11), .ref (a 12), .ref (a 13), .ref (a 14), .ref (a 15), .ref (a 16), .ref (a 17), .int (nI lm), .ref (a 18), .ref (a 19), .ref (a 20), .ref (a 21), .int v461, .int v462, .int v463, .int v464, .int (nI n465), .int (nI n466), .ref (a 22), .ref (a 23), .ref (a 24), .ref (a 25), .ref (a 26), .ref (a 27), .ref (a 28), .ref (a 29), .ref (a 30), .int kf]) := by rw [hw479]; exact set_eq k475
            have k484 : w478[5]? = some (iA E (a 5) 260 fs445) := by rw [hw479]; exact set_ne k476 (by decide)
            have kp485 := keeps_set kp477 hw479 (by first | exact rfl | decide | omega | (dsimp only; omega))
            refine x_aload_n C dX12_readsSum_64 rfl 1 rfl rfl ?_
            refine x_aload_n C dX12_readsSum_65 rfl 1 rfl rfl ?_
            refine x_get C (ci := 11) (k := 5) 0 k483 rfl in_X12 (by decide) w_1123 rfl dX12_readsSum_66 rfl ?_
            refine x_iconst C (v := 1) dX12_readsSum_69 (by decide) rfl ?_
            refine x_iadd C (v := (nI (px + 1))) dX12_readsSum_70 (nI_add px 1) rfl ?_
            obtain ⟨w486, hw487⟩ : ∃ w : va_W, w = List.set w478 0 (ob (a 0) 11 [.ref (a 1), .ref (a 2), .ref (a 3), .ref (a 4), .int (nI tp), .int (nI (px + 1)), .int (nI le), .int v459, .int nz, .int v460, .int (nI cm443), .int (nI (wt444 + 1)), .int (nI sm), .int (nI (cd.2.2.2.2.2)), .ref (a 5), .ref (a 6), .ref (a 7), .ref (a 8), .ref (a 9), .ref (a 10), .ref (a 11), .ref (a 12), .ref (a 13), .ref (a 14), .ref (a 15), .ref (a 16), .ref (a 17), .int (nI lm), .ref (a 18), .ref (a 19), .ref (a 20), .ref (a 21), .int v461, .int v462, .int v463, .int v464, .int (nI n465), .int (nI n466), .ref (a 22), .ref (a 23), .ref (a 24), .ref (a 25), .ref (a 26), .ref (a 27), .ref (a 28), .ref (a 29), .ref (a 30), .int kf]) := ⟨_, rfl⟩
            refine x_put C (ci := 11) (k := 5) (ty := .int) 0 k483 rfl in_X12 tyX12 tyX12_ok nmX12 (by decide) w_1123 rfl rfl rfl rfl (Nat.le_of_ble_eq_true rfl) hw487.symm dX12_readsSum_71 rfl ?_
            have hW488 : WX (okM E a cd kf jn js jq) w486 := by rw [hw487]; exact hW480.set (k := 0) rfl ⟨tp, (px + 1), le, v459, nz, v460, cm443, (wt444 + 1), sm, lm, v461, v462, v463, v464, n465, n466, by omega, by omega, by omega, by omega, by omega, by omega, by omega, by omega, by omega, rfl⟩
            have k489 : w486[4]? = some (bA E (a 4) 260 tf) := by rw [hw487]; exact set_ne k481 (by decide)
            have k490 : w486[6]? = some (iA E (a 6) 260 (upd gx wt444 (nI (1048576 * n95)))) := by rw [hw487]; exact set_ne k482 (by decide)
            have k491 : w486[0]? = some (ob (a 0) 11 [.ref (a 1), .ref (a 2), .ref (a 3), .ref (a 4), .int (nI tp), .int (nI (px + 1)), .int (nI le), .int v459, .int nz, .int v460, .int (nI cm443), .int (nI (wt444 + 1)), .int (nI sm), .int (nI (cd.2.2.2.2.2)), .ref (a 5), .ref (a 6), .ref (a 7), .ref (a 8), .ref (a 9), .ref (a 10), .ref (a 11), .ref (a 12), .ref (a 13), .ref (a 14), .ref (a 15), .ref (a 16), .ref (a 17), .int (nI lm), .ref (a 18), .ref (a 19), .ref (a 20), .ref (a 21), .int v461, .int v462, .int v463, .int v464, .int (nI n465), .int (nI n466), .ref (a 22), .ref (a 23), .ref (a 24), .ref (a 25), .ref (a 26), .ref (a 27), .ref (a 28), .ref (a 29), .ref (a 30), .int kf]) := by rw [hw487]; exact set_eq k483
            have k492 : w486[5]? = some (iA E (a 5) 260 fs445) := by rw [hw487]; exact set_ne k484 (by decide)
            have kp493 := keeps_set kp485 hw487 (by first | exact rfl | decide | omega | (dsimp only; omega))
            have hq494 := pend_len (W := We447)
            have hq495 := len_app hc450
            have hq496 : wgt ((n95, 0) :: (We447 ++ W)) = 1 + wgt (We447 ++ W) := by show wg1 n95 + wgt (We447 ++ W) = _; rw [wg1_1 (Or.inl (by omega))]
            refine x_aload_n C dX12_readsSum_74 rfl 1 rfl rfl ?_
            refine x_vi C (As := []) (rest := []) (m_readsFactor E l a cd hG kf jn js jq w486 hW488 tp (px + 1) le cm443 (wt444 + 1) sm lm nz ⟨v459, v460, v461, v462, v463, v464, n465, n466, ⟨by omega, by omega, by omega, by omega, by omega, by omega, by omega⟩, ⟨by omega, by omega⟩, k491⟩ tf k489 (by omega) fs445 k492 ((upd gx wt444 (nI (1048576 * n95)))) k490 ((n95, 0) :: (We447 ++ W)) (wR_push (op := n95) (pay := 0) hc450 (by omega) (by omega)) c0 (h + 1 + pend We447) (CI_push (e := (n95, 0)) hc454 (nJ ⟨by show n95 ≠ 11; omega, by show n95 ≠ 12; omega⟩)) (by omega) sg (by omega) (by omega)) mf_X12_readsFactor w_1332 0 k491 rfl rfl rfl (Nat.le_of_ble_eq_true rfl) ⟨(Nat.le_of_ble_eq_true rfl), (Nat.le_of_ble_eq_true rfl)⟩ ⟨(Nat.le_of_ble_eq_true rfl), (Nat.le_of_ble_eq_true rfl)⟩ dX12_readsSum_75 rfl (fun r498 w499 h497 => ?_)
            obtain ⟨hW500, kq501, zb502, x503⟩ := h497
            have k504 : w499[4]? = some (bA E (a 4) 260 tf) := keeps_at kq501 k489 (by first | decide | omega | (dsimp only; omega))
            have kp505 := keeps_tr kp493 kq501 (fun q hq => by first | omega | (dsimp only at *; omega))
            rcases x503 with ⟨e506, rf507⟩ | ⟨e508, pl509, wt510, x511, fw512, Wn513, hf514, hf515, hf516, hf517, hf518, hf519, hf520, hf521⟩
            · refine x_top e506 ?_
              obtain ⟨pl522, cm523, wt524, fs525, fw526, rs527⟩ := rf507
              obtain ⟨⟨nu528, mo529⟩, k530, k531⟩ := rs527
              obtain ⟨v532, v533, v534, v535, v536, v537, n538, n539, bo540, bo541, k542⟩ := mo529
              refine x_if_ne C (tgt := 163) dX12_readsSum_78 (by decide) rfl (fun h => absurd h (by decide)) (fun _ => ?_)
              refine x_iconst C (v := 0) dX12_readsSum_81 (by decide) rfl ?_
              exact x_zret C hr hlk rfl dX12_readsSum_82 ⟨hW500, kp505, (Or.inl rfl), (Or.inl ⟨rfl, ⟨pl522, cm523, wt524, _, _, ⟨⟨_, ⟨v532, v533, v534, v535, v536, v537, n538, n539, ⟨by omega, by omega, by omega, by omega, by omega, by omega, by omega⟩, ⟨by omega, by omega⟩, k542⟩⟩, k530, k531⟩⟩⟩)⟩
            · refine x_top e508 ?_
              obtain ⟨⟨nu543, mo544⟩, k545, k546⟩ := hf518
              obtain ⟨v547, v548, v549, v550, v551, v552, n553, n554, bo555, bo556, k557⟩ := mo544
              refine x_if_ne C (tgt := 163) dX12_readsSum_78 (by decide) rfl (fun _ => ?_) (fun h => absurd h (by decide))
              refine x_goto C (tgt := 14) dX12_readsSum_163 (by decide) ?_
              refine x_lv (lv1 := [(0, .ref (a 0)), (1, .int (nI wt))]) [1, 2] rfl ?_
              exact ih14 pl509 (cm443 + 1) wt510 nu543 ((upd fs445 cm443 x511)) fw512 (Wn513 ++ (n95, 0) :: We447) w499 hW500 (by omega) ⟨v547, v548, v549, v550, v551, v552, n553, n554, ⟨by omega, by omega, by omega, by omega, by omega, by omega, by omega⟩, ⟨by omega, by omega⟩, k557⟩ k504 k545 k546 (by rw [asc3]; exact hf517) (sOps_app (pend14 hf516).2.2 (sOps_cons (e := (n95, 0)) (Or.inl ⟨by show 2 ≤ n95; omega, by show n95 ≤ 6; omega⟩) hc457)) (by rw [asc3, pend_app, (pend14 hf516).1, show pend ((n95, 0) :: We447) = 1 + pend We447 from by show pd1 n95 + pend We447 = _; rw [pd1_1 (by omega)], show h + 1 + (0 + (1 + pend We447)) = h + 1 + pend We447 + 1 from by omega]; exact hf519) (by rw [asc3, wgt_app, (pend14 hf516).2.1]; omega) (ag_upd (fun k hk => (hc456 k hk).trans (iv14_8 k hk)) (CI_le hc454)) kp505
    refine x_lv (lv1 := [(0, .ref (a 0)), (1, .int (nI wt))]) [1, 0] rfl ?_
    exact loop14 _ pl24 (cm + 1) wt25 nu58 ((upd fs cm x26)) fw27 Wn28 w14 hW15 (Nat.lt_succ_self _) ⟨v62, v63, v64, v65, v66, v67, n68, n69, ⟨by omega, by omega, by omega, by omega, by omega, by omega, by omega⟩, ⟨by omega, by omega⟩, k72⟩ k19 k60 k61 hf32 (pend14 hf31).2.2 (by rw [(pend14 hf31).1]; exact hf34) (by rw [wgt_app, (pend14 hf31).2.1]; omega) (ag_upd (fun _ _ => rfl) (CI_le hci)) kp20
