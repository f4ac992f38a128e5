set_option maxRecDepth 20000 in
set_option maxHeartbeats 4000000 in
theorem m_inX (E : xE) (l : Launch) (a : Nat → Nat) (cd : Cd) (hG : Good cd) (ws : va_W) (hW : WX (okM E a cd) ws) (v : Int32) (lo : Int32) (hi : Int32) : xI E l yX12_in cX12_in 3 (some .boolean) 0 [.int v, .int lo, .int hi] ws (fun r w => w = ws ∧ zb r ∧ ((¬ r = 0 ∧ wth v lo hi) ∨ (r = 0 ∧ ¬ wth v lo hi))) := by
  refine xI_start (lv := [(0, .int v), (1, .int lo), (2, .int hi)]) RX12 (by decide) rfl (Nat.le_of_ble_eq_true rfl) rfl (fun p e s m below meth c A C hr hlk => ?_)
  refine x_iload_n C dX12_in_0 rfl 0 rfl rfl ?_
  refine x_iload_n C dX12_in_1 rfl 1 rfl rfl ?_
  refine x_icmp_lt C (tgt := 14) dX12_in_2 (by decide) rfl (fun c1 => ?_) (fun c1 => ?_)
  · skip
    refine x_iconst C (v := 0) dX12_in_14 (by decide) rfl ?_
    exact x_zret C hr hlk rfl dX12_in_15 ⟨rfl, (Or.inl rfl), (Or.inr ⟨rfl, fun q => q.1 c1⟩)⟩
  · skip
    refine x_iload_n C dX12_in_5 rfl 0 rfl rfl ?_
    refine x_iload_n C dX12_in_6 rfl 2 rfl rfl ?_
    refine x_icmp_gt C (tgt := 14) dX12_in_7 (by decide) rfl (fun c2 => ?_) (fun c2 => ?_)
    · skip
      refine x_iconst C (v := 0) dX12_in_14 (by decide) rfl ?_
      exact x_zret C hr hlk rfl dX12_in_15 ⟨rfl, (Or.inl rfl), (Or.inr ⟨rfl, fun q => q.2 c2⟩)⟩
    · skip
      refine x_iconst C (v := 1) dX12_in_10 (by decide) rfl ?_
      refine x_goto C (tgt := 15) dX12_in_11 (by decide) ?_
      exact x_zret C hr hlk rfl dX12_in_15 ⟨rfl, (Or.inr rfl), (Or.inl ⟨by decide, ⟨c1, c2⟩⟩)⟩
set_option maxRecDepth 20000 in
set_option maxHeartbeats 4000000 in
theorem m_seedX (E : xE) (l : Launch) (a : Nat → Nat) (cd : Cd) (hG : Good cd) (ws : va_W) (hW : WX (okM E a cd) ws) (p0 : Int32) : xI E l yX12_seed cX12_seed 2 (some .boolean) 8 [.ref (a 0), .int p0] ws (fun r w => WX (okM E a cd) w ∧ zb r ∧ (r = bI (wth p0 0 65535))) := by
  refine xI_start (lv := [(0, .ref (a 0)), (1, .int p0)]) RX12 (by decide) rfl (Nat.le_of_ble_eq_true rfl) rfl (fun p e s m below meth c A C hr hlk => ?_)
  refine x_iload_n C dX12_seed_0 rfl 1 rfl rfl ?_
  refine x_iconst C (v := 0) dX12_seed_1 (by decide) rfl ?_
  refine x_ldcw C w_1669 dX12_seed_2 rfl ?_
  refine x_si C (As := [.int p0, .int 0, .int 65535]) (rest := []) (m_inX E l a cd hG ws hW p0 (0 : Int32) (65535 : Int32)) mf_X12_in w_1267 rfl rfl (Nat.le_of_ble_eq_true rfl) ⟨(Nat.le_of_ble_eq_true rfl), (Nat.le_of_ble_eq_true rfl)⟩ ⟨(Nat.le_of_ble_eq_true rfl), (Nat.le_of_ble_eq_true rfl)⟩ dX12_seed_5 rfl (fun r2 w3 h1 => ?_)
  obtain ⟨hW4, zb5, x6⟩ := h1
  refine x_ws hW4 ?_
  rcases x6 with ⟨hn7, hw8⟩ | ⟨e9, hw10⟩
  · skip
    refine x_if_ne C (tgt := 13) dX12_seed_8 (by decide) rfl (fun _ => ?_) (fun h => absurd h hn7)
    refine x_aload_n C dX12_seed_13 rfl 0 rfl rfl ?_
    obtain ⟨_, k11, n12, n14, n16, v18, v19, v20, n21, n23, n25, n27, v29, v30, v31, v32, n33, n35, v37, bn13, bn15, bn17, bn22, bn24, bn26, bn28, bn34, bn36, zv38, rfl⟩ := hW 0 _ rfl
    refine x_get C (ci := 11) (k := 0) 0 k11 rfl in_X12 (by decide) w_1118 rfl dX12_seed_14 rfl ?_
    refine x_sipush C (v := 380) dX12_seed_17 (by decide) rfl ?_
    refine x_iload_n C dX12_seed_20 rfl 1 rfl rfl ?_
    obtain ⟨_, k39, f40, pf41, rfl⟩ := hW 1 _ rfl
    have pf42 : NB (upd f40 380 p0) := NB_free pf41 (by unfold bd; omega)
    obtain ⟨w43, hw44⟩ : ∃ w : va_W, w = List.set ws 1 (iA E (a 1) 382 (upd f40 380 p0)) := ⟨_, rfl⟩
    refine x_iask C 380 (by decide) (by decide) (by decide) 1 k39 hw44.symm dX12_seed_21 rfl ?_
    have hW45 : WX (okM E a cd) w43 := by rw [hw44]; exact hW.set (k := 1) rfl ⟨_, pf42, rfl⟩
    have k46 : w43[0]? = some (ob (a 0) 11 [.ref (a 1), .ref (a 2), .ref (a 3), .ref (a 4), .int (nI n12), .int (nI n14), .int (nI n16), .int v18, .int v19, .int v20, .int (nI n21), .int (nI n23), .int (nI n25), .int (nI (cd.2.2.2.2.2)), .ref (a 5), .ref (a 6), .ref (a 7), .ref (a 8), .ref (a 9), .ref (a 10), .ref (a 11), .ref (a 12), .ref (a 13), .ref (a 14), .ref (a 15), .ref (a 16), .ref (a 17), .int (nI n27), .ref (a 18), .ref (a 19), .ref (a 20), .ref (a 21), .int v29, .int v30, .int v31, .int v32, .int (nI n33), .int (nI n35), .ref (a 22), .ref (a 23), .ref (a 24), .ref (a 25), .ref (a 26), .ref (a 27), .ref (a 28), .ref (a 29), .ref (a 30), .int v37]) := by rw [hw44]; exact set_ne k11 (by decide)
    have k47 : w43[1]? = some (iA E (a 1) 382 (upd f40 380 p0)) := by rw [hw44]; exact set_eq k39
    refine x_iconst C (v := 1) dX12_seed_22 (by decide) rfl ?_
    exact x_zret C hr hlk rfl dX12_seed_23 ⟨hW45, (Or.inr rfl), (bI_t hw8).symm⟩
  · refine x_top e9 ?_
    refine x_if_ne C (tgt := 13) dX12_seed_8 (by decide) rfl (fun h => absurd h (by decide)) (fun _ => ?_)
    refine x_iconst C (v := 0) dX12_seed_11 (by decide) rfl ?_
    exact x_zret C hr hlk rfl dX12_seed_12 ⟨hW, (Or.inl rfl), (bI_f hw10).symm⟩
