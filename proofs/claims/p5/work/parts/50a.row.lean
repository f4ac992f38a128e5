set_option maxRecDepth 20000 in
set_option maxHeartbeats 4000000 in
theorem c_isWithinX (E : xE) (l : Launch) (a : Nat → Nat) (ws : va_W) (hW : WX (okX E a) ws) (v : Int32) (lo : Int32) (hi : Int32) : xI E l yX11_isWithin cX11_isWithin 3 (some .boolean) 0 [.int v, .int lo, .int hi] ws (fun r w => w = ws ∧ zb r ∧ ((¬ r = 0 ∧ wth v lo hi) ∨ (r = 0 ∧ ¬ wth v lo hi))) := by
  refine xI_start (lv := [(0, .int v), (1, .int lo), (2, .int hi)]) RX11 (by decide) rfl (Nat.le_of_ble_eq_true rfl) rfl (fun p e s m below meth c A C hr hlk => ?_)
  refine x_iload_n C dX11_isWithin_0 rfl 0 rfl rfl ?_
  refine x_iload_n C dX11_isWithin_1 rfl 1 rfl rfl ?_
  refine x_icmp_lt C (tgt := 14) dX11_isWithin_2 (by decide) rfl (fun c1 => ?_) (fun c1 => ?_)
  · skip
    refine x_iconst C (v := 0) dX11_isWithin_14 (by decide) rfl ?_
    exact x_zret C hr hlk rfl dX11_isWithin_15 ⟨rfl, (Or.inl rfl), (Or.inr ⟨rfl, fun q => q.1 c1⟩)⟩
  · skip
    refine x_iload_n C dX11_isWithin_5 rfl 0 rfl rfl ?_
    refine x_iload_n C dX11_isWithin_6 rfl 2 rfl rfl ?_
    refine x_icmp_gt C (tgt := 14) dX11_isWithin_7 (by decide) rfl (fun c2 => ?_) (fun c2 => ?_)
    · skip
      refine x_iconst C (v := 0) dX11_isWithin_14 (by decide) rfl ?_
      exact x_zret C hr hlk rfl dX11_isWithin_15 ⟨rfl, (Or.inl rfl), (Or.inr ⟨rfl, fun q => q.2 c2⟩)⟩
    · skip
      refine x_iconst C (v := 1) dX11_isWithin_10 (by decide) rfl ?_
      refine x_goto C (tgt := 15) dX11_isWithin_11 (by decide) ?_
      exact x_zret C hr hlk rfl dX11_isWithin_15 ⟨rfl, (Or.inr rfl), (Or.inl ⟨by decide, ⟨c1, c2⟩⟩)⟩
set_option maxRecDepth 20000 in
set_option maxHeartbeats 4000000 in
theorem c_workX (E : xE) (l : Launch) (a : Nat → Nat) (ws : va_W) (hW : WX (okX E a) ws) (p0 : Int32) (p1 : Int32) (p2 : Int32) (p3 : Int32) : xI E l yX11_work cX11_work 5 (some .boolean) 8 [.ref (a 0), .int p0, .int p1, .int p2, .int p3] ws (fun r w => WX (okX E a) w ∧ zb r ∧ (r = bI (wth p0 0 7 ∧ wth p1 1 999 ∧ wth p2 0 999 ∧ wth p3 0 9999))) := by
  refine xI_start (lv := [(0, .ref (a 0)), (1, .int p0), (2, .int p1), (3, .int p2), (4, .int p3)]) RX11 (by decide) rfl (Nat.le_of_ble_eq_true rfl) rfl (fun p e s m below meth c A C hr hlk => ?_)
  refine x_iload_n C dX11_work_0 rfl 1 rfl rfl ?_
  refine x_iconst C (v := 0) dX11_work_1 (by decide) rfl ?_
  refine x_bipush C (v := 7) dX11_work_2 (by decide) rfl ?_
  refine x_si C (As := [.int p0, .int 0, .int 7]) (rest := []) (c_isWithinX E l a ws hW p0 (0 : Int32) (7 : Int32)) mf_X11_isWithin w_462 rfl rfl (Nat.le_of_ble_eq_true rfl) ⟨(Nat.le_of_ble_eq_true rfl), (Nat.le_of_ble_eq_true rfl)⟩ ⟨(Nat.le_of_ble_eq_true rfl), (Nat.le_of_ble_eq_true rfl)⟩ dX11_work_4 rfl (fun r2 w3 h1 => ?_)
  obtain ⟨hW4, zb5, x6⟩ := h1
  refine x_ws hW4 ?_
  rcases x6 with ⟨hn7, hw8⟩ | ⟨e9, hw10⟩
  · skip
    obtain ⟨j11, hl12, hh13, ej14⟩ := w_nat (a := 0) (b := 7) (by decide) (by decide) hw8
    subst ej14
    refine x_if_eq C (tgt := 44) dX11_work_7 (by decide) rfl (fun h => absurd h hn7) (fun _ => ?_)
    refine x_iload_n C dX11_work_10 rfl 2 rfl rfl ?_
    refine x_iconst C (v := 1) dX11_work_11 (by decide) rfl ?_
    refine x_sipush C (v := 999) dX11_work_12 (by decide) rfl ?_
    refine x_si C (As := [.int p1, .int 1, .int 999]) (rest := []) (c_isWithinX E l a ws hW p1 (1 : Int32) (999 : Int32)) mf_X11_isWithin w_462 rfl rfl (Nat.le_of_ble_eq_true rfl) ⟨(Nat.le_of_ble_eq_true rfl), (Nat.le_of_ble_eq_true rfl)⟩ ⟨(Nat.le_of_ble_eq_true rfl), (Nat.le_of_ble_eq_true rfl)⟩ dX11_work_15 rfl (fun r16 w17 h15 => ?_)
    obtain ⟨hW18, zb19, x20⟩ := h15
    refine x_ws hW18 ?_
    rcases x20 with ⟨hn21, hw22⟩ | ⟨e23, hw24⟩
    · skip
      obtain ⟨j25, hl26, hh27, ej28⟩ := w_nat (a := 1) (b := 999) (by decide) (by decide) hw22
      subst ej28
      refine x_if_eq C (tgt := 44) dX11_work_18 (by decide) rfl (fun h => absurd h hn21) (fun _ => ?_)
      refine x_iload_n C dX11_work_21 rfl 3 rfl rfl ?_
      refine x_iconst C (v := 0) dX11_work_22 (by decide) rfl ?_
      refine x_sipush C (v := 999) dX11_work_23 (by decide) rfl ?_
      refine x_si C (As := [.int p2, .int 0, .int 999]) (rest := []) (c_isWithinX E l a ws hW p2 (0 : Int32) (999 : Int32)) mf_X11_isWithin w_462 rfl rfl (Nat.le_of_ble_eq_true rfl) ⟨(Nat.le_of_ble_eq_true rfl), (Nat.le_of_ble_eq_true rfl)⟩ ⟨(Nat.le_of_ble_eq_true rfl), (Nat.le_of_ble_eq_true rfl)⟩ dX11_work_26 rfl (fun r30 w31 h29 => ?_)
      obtain ⟨hW32, zb33, x34⟩ := h29
      refine x_ws hW32 ?_
      rcases x34 with ⟨hn35, hw36⟩ | ⟨e37, hw38⟩
      · skip
        obtain ⟨j39, hl40, hh41, ej42⟩ := w_nat (a := 0) (b := 999) (by decide) (by decide) hw36
        subst ej42
        refine x_if_eq C (tgt := 44) dX11_work_29 (by decide) rfl (fun h => absurd h hn35) (fun _ => ?_)
        refine x_iload C dX11_work_32 4 rfl rfl ?_
        refine x_iconst C (v := 0) dX11_work_34 (by decide) rfl ?_
        refine x_sipush C (v := 9999) dX11_work_35 (by decide) rfl ?_
        refine x_si C (As := [.int p3, .int 0, .int 9999]) (rest := []) (c_isWithinX E l a ws hW p3 (0 : Int32) (9999 : Int32)) mf_X11_isWithin w_462 rfl rfl (Nat.le_of_ble_eq_true rfl) ⟨(Nat.le_of_ble_eq_true rfl), (Nat.le_of_ble_eq_true rfl)⟩ ⟨(Nat.le_of_ble_eq_true rfl), (Nat.le_of_ble_eq_true rfl)⟩ dX11_work_38 rfl (fun r44 w45 h43 => ?_)
        obtain ⟨hW46, zb47, x48⟩ := h43
        refine x_ws hW46 ?_
        rcases x48 with ⟨hn49, hw50⟩ | ⟨e51, hw52⟩
        · skip
          obtain ⟨j53, hl54, hh55, ej56⟩ := w_nat (a := 0) (b := 9999) (by decide) (by decide) hw50
          subst ej56
          refine x_if_ne C (tgt := 46) dX11_work_41 (by decide) rfl (fun _ => ?_) (fun h => absurd h hn49)
          refine x_aload_n C dX11_work_46 rfl 0 rfl rfl ?_
          obtain ⟨_, k57, v58, rfl⟩ := hW 0 _ rfl
          refine x_get C (ci := 10) (k := 2) 0 k57 rfl in_X11 (by decide) w_387 rfl dX11_work_47 rfl ?_
          obtain ⟨_, k59, n60, v62, v63, v64, v65, v66, bn61, rfl⟩ := hW 5 _ rfl
          refine x_get C (ci := 8) (k := 5) 5 k59 rfl in_X9 (by decide) w_213 rfl dX11_work_50 rfl ?_
          refine x_iload_n C dX11_work_53 rfl 1 rfl rfl ?_
          refine x_iload_n C dX11_work_54 rfl 2 rfl rfl ?_
          refine x_iload_n C dX11_work_55 rfl 3 rfl rfl ?_
          refine x_iload C dX11_work_56 4 rfl rfl ?_
          obtain ⟨_, k67, v68, rfl⟩ := hW 21 _ rfl
          refine x_vv C (As := [.int (nI j11), .int (nI j25), .int (nI j39), .int (nI j53)]) (rest := []) (c_Works_tell E l a ws hW 5 (Or.inl rfl) j11 ((nI j25)) ((nI j39)) ((nI j53)) (by omega)) mf_X10_tell w_483 21 k67 rfl rfl rfl (Nat.le_of_ble_eq_true rfl) ⟨(Nat.le_of_ble_eq_true rfl), (Nat.le_of_ble_eq_true rfl)⟩ ⟨(Nat.le_of_ble_eq_true rfl), (Nat.le_of_ble_eq_true rfl)⟩ dX11_work_58 rfl (fun w71 h69 => ?_)
          obtain ⟨hW72, kq73⟩ := h69
          have k74 : w71[0]? = some (ob (a 0) 10 [.ref (a 1), .ref (a 3), .ref (a 5), .ref (a 27), .ref (a 49), .int v58, .ref (a 71), .ref (a 79), .ref (a 87), .ref (a 92), .ref (a 103), .ref (a 105), .ref (a 106), .ref (a 107), .ref (a 108), .ref (a 109), .ref (a 110), .ref (a 111), .ref (a 112)]) := keeps_at kq73 k57 (by first | decide | omega | (dsimp only; omega))
          refine x_iconst C (v := 1) dX11_work_61 (by decide) rfl ?_
          exact x_zret C hr hlk rfl dX11_work_62 ⟨hW72, (Or.inr rfl), (bI_t ⟨hw8, hw22, hw36, hw50⟩).symm⟩
        · refine x_top e51 ?_
          refine x_if_ne C (tgt := 46) dX11_work_41 (by decide) rfl (fun h => absurd h (by decide)) (fun _ => ?_)
          refine x_iconst C (v := 0) dX11_work_44 (by decide) rfl ?_
          exact x_zret C hr hlk rfl dX11_work_45 ⟨hW, (Or.inl rfl), (bI_f (fun q => hw52 q.2.2.2)).symm⟩
      · refine x_top e37 ?_
        refine x_if_eq C (tgt := 44) dX11_work_29 (by decide) rfl (fun _ => ?_) (fun h => absurd h (by decide))
        refine x_iconst C (v := 0) dX11_work_44 (by decide) rfl ?_
        exact x_zret C hr hlk rfl dX11_work_45 ⟨hW, (Or.inl rfl), (bI_f (fun q => hw38 q.2.2.1)).symm⟩
    · refine x_top e23 ?_
      refine x_if_eq C (tgt := 44) dX11_work_18 (by decide) rfl (fun _ => ?_) (fun h => absurd h (by decide))
      refine x_iconst C (v := 0) dX11_work_44 (by decide) rfl ?_
      exact x_zret C hr hlk rfl dX11_work_45 ⟨hW, (Or.inl rfl), (bI_f (fun q => hw24 q.2.1)).symm⟩
  · refine x_top e9 ?_
    refine x_if_eq C (tgt := 44) dX11_work_7 (by decide) rfl (fun _ => ?_) (fun h => absurd h (by decide))
    refine x_iconst C (v := 0) dX11_work_44 (by decide) rfl ?_
    exact x_zret C hr hlk rfl dX11_work_45 ⟨hW, (Or.inl rfl), (bI_f (fun q => hw10 q.1)).symm⟩
