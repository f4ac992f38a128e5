set_option maxRecDepth 20000 in
set_option maxHeartbeats 4000000 in
theorem m_inX (E : xE) (l : Launch) (a : Nat → Nat) (cd : Cd) (hG : Good cd) (ws : va_W) (hW : WX (okM E a cd) ws) (v : Int32) (lo : Int32) (hi : Int32) : xI E l yX12_in cX12_in 3 (some .boolean) 0 [.int v, .int lo, .int hi] ws (fun r w => w = ws ∧ zb r ∧ ((¬ r = 0 ∧ wth v lo hi) ∨ (r = 0 ∧ ¬ wth v lo hi))) := by
  refine xI_start (lv := [(0, .int v), (1, .int lo), (2, .int hi)]) RX12 (by decide) rfl (Nat.le_of_ble_eq_true rfl) rfl (fun p e s m below meth c A C hr hlk => ?_)
  refine x_iload_n C dX12_in_0 rfl 0 rfl rfl ?_
  refine x_iload_n C dX12_in_1 rfl 1 rfl rfl ?_
  refine x_icmp_lt C (tgt := 14) dX12_in_2 (by decide) rfl (fun c1 => ?_) (fun c1 => ?_)
  · skip
    refine x_iconst C (v := 0) dX12_in_14 (by decide) rfl ?_
    exact x_zret C hr hlk rfl dX12_in_15 ⟨rfl, (Or.inl rfl), (Or.inr ⟨rfl, fun q => q.1 c1⟩)⟩
  · skip
    refine x_iload_n C dX12_in_5 rfl 0 rfl rfl ?_
    refine x_iload_n C dX12_in_6 rfl 2 rfl rfl ?_
    refine x_icmp_gt C (tgt := 14) dX12_in_7 (by decide) rfl (fun c2 => ?_) (fun c2 => ?_)
    · skip
      refine x_iconst C (v := 0) dX12_in_14 (by decide) rfl ?_
      exact x_zret C hr hlk rfl dX12_in_15 ⟨rfl, (Or.inl rfl), (Or.inr ⟨rfl, fun q => q.2 c2⟩)⟩
    · skip
      refine x_iconst C (v := 1) dX12_in_10 (by decide) rfl ?_
      refine x_goto C (tgt := 15) dX12_in_11 (by decide) ?_
      exact x_zret C hr hlk rfl dX12_in_15 ⟨rfl, (Or.inr rfl), (Or.inl ⟨by decide, ⟨c1, c2⟩⟩)⟩
set_option maxRecDepth 20000 in
set_option maxHeartbeats 4000000 in
theorem m_workX (E : xE) (l : Launch) (a : Nat → Nat) (cd : Cd) (hG : Good cd) (ws : va_W) (hW : WX (okM E a cd) ws) (p0 : Int32) (p1 : Int32) (p2 : Int32) (p3 : Int32) : xI E l yX12_work cX12_work 5 (some .boolean) 8 [.ref (a 0), .int p0, .int p1, .int p2, .int p3] ws (fun r w => WX (okM E a cd) w ∧ zb r ∧ (r = bI (wth p0 0 7 ∧ wth p1 1 999 ∧ wth p2 0 999 ∧ wth p3 0 9999))) := by
  refine xI_start (lv := [(0, .ref (a 0)), (1, .int p0), (2, .int p1), (3, .int p2), (4, .int p3)]) RX12 (by decide) rfl (Nat.le_of_ble_eq_true rfl) rfl (fun p e s m below meth c A C hr hlk => ?_)
  refine x_iload_n C dX12_work_0 rfl 1 rfl rfl ?_
  refine x_iconst C (v := 0) dX12_work_1 (by decide) rfl ?_
  refine x_bipush C (v := 7) dX12_work_2 (by decide) rfl ?_
  refine x_si C (As := [.int p0, .int 0, .int 7]) (rest := []) (m_inX E l a cd hG ws hW p0 (0 : Int32) (7 : Int32)) mf_X12_in w_1267 rfl rfl (Nat.le_of_ble_eq_true rfl) ⟨(Nat.le_of_ble_eq_true rfl), (Nat.le_of_ble_eq_true rfl)⟩ ⟨(Nat.le_of_ble_eq_true rfl), (Nat.le_of_ble_eq_true rfl)⟩ dX12_work_4 rfl (fun r2 w3 h1 => ?_)
  obtain ⟨hW4, zb5, x6⟩ := h1
  refine x_ws hW4 ?_
  rcases x6 with ⟨hn7, hw8⟩ | ⟨e9, hw10⟩
  · skip
    obtain ⟨j11, hl12, hh13, ej14⟩ := w_nat (a := 0) (b := 7) (by decide) (by decide) hw8
    subst ej14
    refine x_if_eq C (tgt := 44) dX12_work_7 (by decide) rfl (fun h => absurd h hn7) (fun _ => ?_)
    refine x_iload_n C dX12_work_10 rfl 2 rfl rfl ?_
    refine x_iconst C (v := 1) dX12_work_11 (by decide) rfl ?_
    refine x_sipush C (v := 999) dX12_work_12 (by decide) rfl ?_
    refine x_si C (As := [.int p1, .int 1, .int 999]) (rest := []) (m_inX E l a cd hG ws hW p1 (1 : Int32) (999 : Int32)) mf_X12_in w_1267 rfl rfl (Nat.le_of_ble_eq_true rfl) ⟨(Nat.le_of_ble_eq_true rfl), (Nat.le_of_ble_eq_true rfl)⟩ ⟨(Nat.le_of_ble_eq_true rfl), (Nat.le_of_ble_eq_true rfl)⟩ dX12_work_15 rfl (fun r16 w17 h15 => ?_)
    obtain ⟨hW18, zb19, x20⟩ := h15
    refine x_ws hW18 ?_
    rcases x20 with ⟨hn21, hw22⟩ | ⟨e23, hw24⟩
    · skip
      obtain ⟨j25, hl26, hh27, ej28⟩ := w_nat (a := 1) (b := 999) (by decide) (by decide) hw22
      subst ej28
      refine x_if_eq C (tgt := 44) dX12_work_18 (by decide) rfl (fun h => absurd h hn21) (fun _ => ?_)
      refine x_iload_n C dX12_work_21 rfl 3 rfl rfl ?_
      refine x_iconst C (v := 0) dX12_work_22 (by decide) rfl ?_
      refine x_sipush C (v := 999) dX12_work_23 (by decide) rfl ?_
      refine x_si C (As := [.int p2, .int 0, .int 999]) (rest := []) (m_inX E l a cd hG ws hW p2 (0 : Int32) (999 : Int32)) mf_X12_in w_1267 rfl rfl (Nat.le_of_ble_eq_true rfl) ⟨(Nat.le_of_ble_eq_true rfl), (Nat.le_of_ble_eq_true rfl)⟩ ⟨(Nat.le_of_ble_eq_true rfl), (Nat.le_of_ble_eq_true rfl)⟩ dX12_work_26 rfl (fun r30 w31 h29 => ?_)
      obtain ⟨hW32, zb33, x34⟩ := h29
      refine x_ws hW32 ?_
      rcases x34 with ⟨hn35, hw36⟩ | ⟨e37, hw38⟩
      · skip
        obtain ⟨j39, hl40, hh41, ej42⟩ := w_nat (a := 0) (b := 999) (by decide) (by decide) hw36
        subst ej42
        refine x_if_eq C (tgt := 44) dX12_work_29 (by decide) rfl (fun h => absurd h hn35) (fun _ => ?_)
        refine x_iload C dX12_work_32 4 rfl rfl ?_
        refine x_iconst C (v := 0) dX12_work_34 (by decide) rfl ?_
        refine x_sipush C (v := 9999) dX12_work_35 (by decide) rfl ?_
        refine x_si C (As := [.int p3, .int 0, .int 9999]) (rest := []) (m_inX E l a cd hG ws hW p3 (0 : Int32) (9999 : Int32)) mf_X12_in w_1267 rfl rfl (Nat.le_of_ble_eq_true rfl) ⟨(Nat.le_of_ble_eq_true rfl), (Nat.le_of_ble_eq_true rfl)⟩ ⟨(Nat.le_of_ble_eq_true rfl), (Nat.le_of_ble_eq_true rfl)⟩ dX12_work_38 rfl (fun r44 w45 h43 => ?_)
        obtain ⟨hW46, zb47, x48⟩ := h43
        refine x_ws hW46 ?_
        rcases x48 with ⟨hn49, hw50⟩ | ⟨e51, hw52⟩
        · skip
          obtain ⟨j53, hl54, hh55, ej56⟩ := w_nat (a := 0) (b := 9999) (by decide) (by decide) hw50
          subst ej56
          refine x_if_ne C (tgt := 46) dX12_work_41 (by decide) rfl (fun _ => ?_) (fun h => absurd h hn49)
          refine x_aload_n C dX12_work_46 rfl 0 rfl rfl ?_
          obtain ⟨_, k57, n58, n60, n62, v64, v65, v66, n67, n69, n71, n73, v75, v76, v77, v78, n79, n81, v83, bn59, bn61, bn63, bn68, bn70, bn72, bn74, bn80, bn82, zv84, rfl⟩ := hW 0 _ rfl
          refine x_get C (ci := 11) (k := 0) 0 k57 rfl in_X12 (by decide) w_1118 rfl dX12_work_47 rfl ?_
          refine x_sipush C (v := 378) dX12_work_50 (by decide) rfl ?_
          refine x_aload_n C dX12_work_53 rfl 0 rfl rfl ?_
          refine x_get C (ci := 11) (k := 0) 0 k57 rfl in_X12 (by decide) w_1118 rfl dX12_work_54 rfl ?_
          refine x_sipush C (v := 378) dX12_work_57 (by decide) rfl ?_
          obtain ⟨_, k85, f86, pf87, rfl⟩ := hW 1 _ rfl
          refine x_iald C (v := (f86 (378 : Int32).toNatClampNeg)) 1 k85 (vp_k (j := 378) (by decide) (by decide) (by decide)) rfl dX12_work_60 rfl ?_
          refine x_any (fun v88 => ?_)
          refine x_iconst C (v := 1) dX12_work_61 (by decide) rfl ?_
          refine x_iload_n C dX12_work_62 rfl 1 rfl rfl ?_
          refine x_ishl C (v := ((1 : Int32) <<< ((nI j11) &&& 31))) dX12_work_63 rfl rfl ?_
          refine x_any (fun v89 => ?_)
          refine x_ior C (v := (v88 ||| v89)) dX12_work_64 rfl rfl ?_
          refine x_any (fun v90 => ?_)
          have pf91 : NB (upd f86 378 v90) := NB_free pf87 (by unfold bd; omega)
          obtain ⟨w92, hw93⟩ : ∃ w : va_W, w = List.set ws 1 (iA E (a 1) 382 (upd f86 378 v90)) := ⟨_, rfl⟩
          refine x_iask C 378 (by decide) (by decide) (by decide) 1 k85 hw93.symm dX12_work_65 rfl ?_
          have hW94 : WX (okM E a cd) w92 := by rw [hw93]; exact hW.set (k := 1) rfl ⟨_, pf91, rfl⟩
          have k95 : w92[0]? = some (ob (a 0) 11 [.ref (a 1), .ref (a 2), .ref (a 3), .ref (a 4), .int (nI n58), .int (nI n60), .int (nI n62), .int v64, .int v65, .int v66, .int (nI n67), .int (nI n69), .int (nI n71), .int (nI (cd.2.2.2.2.2)), .ref (a 5), .ref (a 6), .ref (a 7), .ref (a 8), .ref (a 9), .ref (a 10), .ref (a 11), .ref (a 12), .ref (a 13), .ref (a 14), .ref (a 15), .ref (a 16), .ref (a 17), .int (nI n73), .ref (a 18), .ref (a 19), .ref (a 20), .ref (a 21), .int v75, .int v76, .int v77, .int v78, .int (nI n79), .int (nI n81), .ref (a 22), .ref (a 23), .ref (a 24), .ref (a 25), .ref (a 26), .ref (a 27), .ref (a 28), .ref (a 29), .ref (a 30), .int v83]) := by rw [hw93]; exact set_ne k57 (by decide)
          have k96 : w92[1]? = some (iA E (a 1) 382 (upd f86 378 v90)) := by rw [hw93]; exact set_eq k85
          refine x_aload_n C dX12_work_66 rfl 0 rfl rfl ?_
          refine x_get C (ci := 11) (k := 0) 0 k95 rfl in_X12 (by decide) w_1118 rfl dX12_work_67 rfl ?_
          refine x_sipush C (v := 338) dX12_work_70 (by decide) rfl ?_
          refine x_iload_n C dX12_work_73 rfl 1 rfl rfl ?_
          refine x_iadd C (v := (nI (338 + j11))) dX12_work_74 (nI_add 338 j11) rfl ?_
          refine x_iload_n C dX12_work_75 rfl 2 rfl rfl ?_
          have pf97 : NB (upd (upd f86 378 v90) (338 + j11) (nI j25)) := NB_free pf91 (by unfold bd; omega)
          obtain ⟨w98, hw99⟩ : ∃ w : va_W, w = List.set w92 1 (iA E (a 1) 382 (upd (upd f86 378 v90) (338 + j11) (nI j25))) := ⟨_, rfl⟩
          refine x_iask C (338 + j11) (nI_clamp (by omega)) (nI_pos (by omega)) (by omega) 1 k96 hw99.symm dX12_work_76 rfl ?_
          have hW100 : WX (okM E a cd) w98 := by rw [hw99]; exact hW94.set (k := 1) rfl ⟨_, pf97, rfl⟩
          have k101 : w98[0]? = some (ob (a 0) 11 [.ref (a 1), .ref (a 2), .ref (a 3), .ref (a 4), .int (nI n58), .int (nI n60), .int (nI n62), .int v64, .int v65, .int v66, .int (nI n67), .int (nI n69), .int (nI n71), .int (nI (cd.2.2.2.2.2)), .ref (a 5), .ref (a 6), .ref (a 7), .ref (a 8), .ref (a 9), .ref (a 10), .ref (a 11), .ref (a 12), .ref (a 13), .ref (a 14), .ref (a 15), .ref (a 16), .ref (a 17), .int (nI n73), .ref (a 18), .ref (a 19), .ref (a 20), .ref (a 21), .int v75, .int v76, .int v77, .int v78, .int (nI n79), .int (nI n81), .ref (a 22), .ref (a 23), .ref (a 24), .ref (a 25), .ref (a 26), .ref (a 27), .ref (a 28), .ref (a 29), .ref (a 30), .int v83]) := by rw [hw99]; exact set_ne k95 (by decide)
          have k102 : w98[1]? = some (iA E (a 1) 382 (upd (upd f86 378 v90) (338 + j11) (nI j25))) := by rw [hw99]; exact set_eq k96
          refine x_aload_n C dX12_work_77 rfl 0 rfl rfl ?_
          refine x_get C (ci := 11) (k := 0) 0 k101 rfl in_X12 (by decide) w_1118 rfl dX12_work_78 rfl ?_
          refine x_sipush C (v := 346) dX12_work_81 (by decide) rfl ?_
          refine x_iload_n C dX12_work_84 rfl 1 rfl rfl ?_
          refine x_iadd C (v := (nI (346 + j11))) dX12_work_85 (nI_add 346 j11) rfl ?_
          refine x_iconst C (v := 0) dX12_work_86 (by decide) rfl ?_
          have pf103 : NB (upd (upd (upd f86 378 v90) (338 + j11) (nI j25)) (346 + j11) (0 : Int32)) := NB_free pf97 (by unfold bd; omega)
          obtain ⟨w104, hw105⟩ : ∃ w : va_W, w = List.set w98 1 (iA E (a 1) 382 (upd (upd (upd f86 378 v90) (338 + j11) (nI j25)) (346 + j11) (0 : Int32))) := ⟨_, rfl⟩
          refine x_iask C (346 + j11) (nI_clamp (by omega)) (nI_pos (by omega)) (by omega) 1 k102 hw105.symm dX12_work_87 rfl ?_
          have hW106 : WX (okM E a cd) w104 := by rw [hw105]; exact hW100.set (k := 1) rfl ⟨_, pf103, rfl⟩
          have k107 : w104[0]? = some (ob (a 0) 11 [.ref (a 1), .ref (a 2), .ref (a 3), .ref (a 4), .int (nI n58), .int (nI n60), .int (nI n62), .int v64, .int v65, .int v66, .int (nI n67), .int (nI n69), .int (nI n71), .int (nI (cd.2.2.2.2.2)), .ref (a 5), .ref (a 6), .ref (a 7), .ref (a 8), .ref (a 9), .ref (a 10), .ref (a 11), .ref (a 12), .ref (a 13), .ref (a 14), .ref (a 15), .ref (a 16), .ref (a 17), .int (nI n73), .ref (a 18), .ref (a 19), .ref (a 20), .ref (a 21), .int v75, .int v76, .int v77, .int v78, .int (nI n79), .int (nI n81), .ref (a 22), .ref (a 23), .ref (a 24), .ref (a 25), .ref (a 26), .ref (a 27), .ref (a 28), .ref (a 29), .ref (a 30), .int v83]) := by rw [hw105]; exact set_ne k101 (by decide)
          have k108 : w104[1]? = some (iA E (a 1) 382 (upd (upd (upd f86 378 v90) (338 + j11) (nI j25)) (346 + j11) (0 : Int32))) := by rw [hw105]; exact set_eq k102
          refine x_aload_n C dX12_work_88 rfl 0 rfl rfl ?_
          refine x_get C (ci := 11) (k := 0) 0 k107 rfl in_X12 (by decide) w_1118 rfl dX12_work_89 rfl ?_
          refine x_sipush C (v := 354) dX12_work_92 (by decide) rfl ?_
          refine x_iload_n C dX12_work_95 rfl 1 rfl rfl ?_
          refine x_iadd C (v := (nI (354 + j11))) dX12_work_96 (nI_add 354 j11) rfl ?_
          refine x_iload_n C dX12_work_97 rfl 3 rfl rfl ?_
          have pf109 : NB (upd (upd (upd (upd f86 378 v90) (338 + j11) (nI j25)) (346 + j11) (0 : Int32)) (354 + j11) (nI j39)) := NB_free pf103 (by unfold bd; omega)
          obtain ⟨w110, hw111⟩ : ∃ w : va_W, w = List.set w104 1 (iA E (a 1) 382 (upd (upd (upd (upd f86 378 v90) (338 + j11) (nI j25)) (346 + j11) (0 : Int32)) (354 + j11) (nI j39))) := ⟨_, rfl⟩
          refine x_iask C (354 + j11) (nI_clamp (by omega)) (nI_pos (by omega)) (by omega) 1 k108 hw111.symm dX12_work_98 rfl ?_
          have hW112 : WX (okM E a cd) w110 := by rw [hw111]; exact hW106.set (k := 1) rfl ⟨_, pf109, rfl⟩
          have k113 : w110[0]? = some (ob (a 0) 11 [.ref (a 1), .ref (a 2), .ref (a 3), .ref (a 4), .int (nI n58), .int (nI n60), .int (nI n62), .int v64, .int v65, .int v66, .int (nI n67), .int (nI n69), .int (nI n71), .int (nI (cd.2.2.2.2.2)), .ref (a 5), .ref (a 6), .ref (a 7), .ref (a 8), .ref (a 9), .ref (a 10), .ref (a 11), .ref (a 12), .ref (a 13), .ref (a 14), .ref (a 15), .ref (a 16), .ref (a 17), .int (nI n73), .ref (a 18), .ref (a 19), .ref (a 20), .ref (a 21), .int v75, .int v76, .int v77, .int v78, .int (nI n79), .int (nI n81), .ref (a 22), .ref (a 23), .ref (a 24), .ref (a 25), .ref (a 26), .ref (a 27), .ref (a 28), .ref (a 29), .ref (a 30), .int v83]) := by rw [hw111]; exact set_ne k107 (by decide)
          have k114 : w110[1]? = some (iA E (a 1) 382 (upd (upd (upd (upd f86 378 v90) (338 + j11) (nI j25)) (346 + j11) (0 : Int32)) (354 + j11) (nI j39))) := by rw [hw111]; exact set_eq k108
          refine x_aload_n C dX12_work_99 rfl 0 rfl rfl ?_
          refine x_get C (ci := 11) (k := 0) 0 k113 rfl in_X12 (by decide) w_1118 rfl dX12_work_100 rfl ?_
          refine x_sipush C (v := 362) dX12_work_103 (by decide) rfl ?_
          refine x_iload_n C dX12_work_106 rfl 1 rfl rfl ?_
          refine x_iadd C (v := (nI (362 + j11))) dX12_work_107 (nI_add 362 j11) rfl ?_
          refine x_iload C dX12_work_108 4 rfl rfl ?_
          have pf115 : NB (upd (upd (upd (upd (upd f86 378 v90) (338 + j11) (nI j25)) (346 + j11) (0 : Int32)) (354 + j11) (nI j39)) (362 + j11) (nI j53)) := NB_free pf109 (by unfold bd; omega)
          obtain ⟨w116, hw117⟩ : ∃ w : va_W, w = List.set w110 1 (iA E (a 1) 382 (upd (upd (upd (upd (upd f86 378 v90) (338 + j11) (nI j25)) (346 + j11) (0 : Int32)) (354 + j11) (nI j39)) (362 + j11) (nI j53))) := ⟨_, rfl⟩
          refine x_iask C (362 + j11) (nI_clamp (by omega)) (nI_pos (by omega)) (by omega) 1 k114 hw117.symm dX12_work_110 rfl ?_
          have hW118 : WX (okM E a cd) w116 := by rw [hw117]; exact hW112.set (k := 1) rfl ⟨_, pf115, rfl⟩
          have k119 : w116[0]? = some (ob (a 0) 11 [.ref (a 1), .ref (a 2), .ref (a 3), .ref (a 4), .int (nI n58), .int (nI n60), .int (nI n62), .int v64, .int v65, .int v66, .int (nI n67), .int (nI n69), .int (nI n71), .int (nI (cd.2.2.2.2.2)), .ref (a 5), .ref (a 6), .ref (a 7), .ref (a 8), .ref (a 9), .ref (a 10), .ref (a 11), .ref (a 12), .ref (a 13), .ref (a 14), .ref (a 15), .ref (a 16), .ref (a 17), .int (nI n73), .ref (a 18), .ref (a 19), .ref (a 20), .ref (a 21), .int v75, .int v76, .int v77, .int v78, .int (nI n79), .int (nI n81), .ref (a 22), .ref (a 23), .ref (a 24), .ref (a 25), .ref (a 26), .ref (a 27), .ref (a 28), .ref (a 29), .ref (a 30), .int v83]) := by rw [hw117]; exact set_ne k113 (by decide)
          have k120 : w116[1]? = some (iA E (a 1) 382 (upd (upd (upd (upd (upd f86 378 v90) (338 + j11) (nI j25)) (346 + j11) (0 : Int32)) (354 + j11) (nI j39)) (362 + j11) (nI j53))) := by rw [hw117]; exact set_eq k114
          refine x_iconst C (v := 1) dX12_work_111 (by decide) rfl ?_
          exact x_zret C hr hlk rfl dX12_work_112 ⟨hW118, (Or.inr rfl), (bI_t ⟨hw8, hw22, hw36, hw50⟩).symm⟩
        · refine x_top e51 ?_
          refine x_if_ne C (tgt := 46) dX12_work_41 (by decide) rfl (fun h => absurd h (by decide)) (fun _ => ?_)
          refine x_iconst C (v := 0) dX12_work_44 (by decide) rfl ?_
          exact x_zret C hr hlk rfl dX12_work_45 ⟨hW, (Or.inl rfl), (bI_f (fun q => hw52 q.2.2.2)).symm⟩
      · refine x_top e37 ?_
        refine x_if_eq C (tgt := 44) dX12_work_29 (by decide) rfl (fun _ => ?_) (fun h => absurd h (by decide))
        refine x_iconst C (v := 0) dX12_work_44 (by decide) rfl ?_
        exact x_zret C hr hlk rfl dX12_work_45 ⟨hW, (Or.inl rfl), (bI_f (fun q => hw38 q.2.2.1)).symm⟩
    · refine x_top e23 ?_
      refine x_if_eq C (tgt := 44) dX12_work_18 (by decide) rfl (fun _ => ?_) (fun h => absurd h (by decide))
      refine x_iconst C (v := 0) dX12_work_44 (by decide) rfl ?_
      exact x_zret C hr hlk rfl dX12_work_45 ⟨hW, (Or.inl rfl), (bI_f (fun q => hw24 q.2.1)).symm⟩
  · refine x_top e9 ?_
    refine x_if_eq C (tgt := 44) dX12_work_7 (by decide) rfl (fun _ => ?_) (fun h => absurd h (by decide))
    refine x_iconst C (v := 0) dX12_work_44 (by decide) rfl ?_
    exact x_zret C hr hlk rfl dX12_work_45 ⟨hW, (Or.inl rfl), (bI_f (fun q => hw10 q.1)).symm⟩
