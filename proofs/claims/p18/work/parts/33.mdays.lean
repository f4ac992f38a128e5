theorem zf_step {g : Nat → Int32} {k : Nat} (hz : ∀ j, j < k → g j = 0) : ∀ j, j < k + 1 → upd g k 0 j = 0 := by
  intro j hj
  by_cases e : j = k
  · subst e; rw [pk_us]
  · rw [pk_un e]; exact hz j (by omega)
/-- the facts as they stand: F on its first eleven places -/
def fcK (E : xE) (a : Nat → Nat) (w : va_W) (F : Nat → Int32) : Prop := ∃ g : Nat → Int32, w[17]? = some (iA E (a 17) 11 g) ∧ clip g = clip F
def fl0 (fn : Nat → Int32) : Nat → Int32 := upd (upd (fun _ => 0) 0 (fn 379)) 1 (fn 379 - fn 379 / 7 * 7)
def flH (fn : Nat → Int32) (y d : Int32) (yn : Nat) : Nat → Int32 := upd (upd (upd (upd (fl0 fn) 2 y) 3 (fn (321 + yn))) 4 d) 8 (fn (329 + yn))
def flE (fn : Nat → Int32) (i : Nat) : Nat → Int32 := upd (upd (upd (upd (upd (upd (fl0 fn) 2 (fn (96 + i))) 3 (fn (321 + (fn (96 + i)).toNatClampNeg))) 5 (fn (0 + i))) 6 (fn 379 - fn (48 + i))) 7 (fn (192 + i))) 8 (fn (144 + i))
def wFor (cd : Cd) (fn : Nat → Int32) (i : Nat) (wk : Int32) : Int32 := bL cd (clip (upd (flE fn i) 9 wk)) 116 (nI 240) 17 0
theorem fc_zero {E : xE} {a : Nat → Nat} {w : va_W} {g fn : Nat → Int32} (h : w[17]? = some (iA E (a 17) 11 (upd (upd g 0 (fn 379)) 1 (fn 379 - fn 379 / 7 * 7)))) (hz : ∀ j, j < 11 → g j = 0) : fcK E a w (fl0 fn) := ⟨_, h, clip_upd (clip_upd (clip_eq hz))⟩
/-- now's day stays -/
def dyK (E : xE) (a : Nat → Nat) (ws w : va_W) : Prop := ∀ f : Nat → Int32, ws[1]? = some (iA E (a 1) 382 f) → ∃ f' : Nat → Int32, w[1]? = some (iA E (a 1) 382 f') ∧ NB f' ∧ f' 379 = f 379
theorem dyK_of {E : xE} {a : Nat → Nat} {ws w : va_W} {f f' : Nat → Int32} (h : ws[1]? = some (iA E (a 1) 382 f)) (h' : w[1]? = some (iA E (a 1) 382 f')) (hn : NB f') (e : f' 379 = f 379) : dyK E a ws w := fun g hg => ⟨f', h', hn, by rw [e, iA_inj (hg.symm.trans h)]⟩
theorem dX12_feels_0 : decode cX12_feels 0 = .ok (.iconst 0, 1) := by decide +kernel
theorem dX12_feels_1 : decode cX12_feels 1 = .ok (.istore_n 1, 1) := by decide +kernel
theorem dX12_feels_2 : decode cX12_feels 2 = .ok (.iload_n 1, 1) := by decide +kernel
theorem dX12_feels_3 : decode cX12_feels 3 = .ok (.bipush 11, 2) := by decide +kernel
theorem dX12_feels_5 : decode cX12_feels 5 = .ok (.if_icmp .ge 16, 3) := by decide +kernel
theorem dX12_feels_8 : decode cX12_feels 8 = .ok (.aload_n 0, 1) := by decide +kernel
theorem dX12_feels_9 : decode cX12_feels 9 = .ok (.getfield 59, 3) := by decide +kernel
theorem dX12_feels_12 : decode cX12_feels 12 = .ok (.iload_n 1, 1) := by decide +kernel
theorem dX12_feels_13 : decode cX12_feels 13 = .ok (.iconst 0, 1) := by decide +kernel
theorem dX12_feels_14 : decode cX12_feels 14 = .ok (.iastore, 1) := by decide +kernel
theorem dX12_feels_15 : decode cX12_feels 15 = .ok (.iinc 1 1, 3) := by decide +kernel
theorem dX12_feels_18 : decode cX12_feels 18 = .ok (.goto (-16), 3) := by decide +kernel
theorem dX12_feels_21 : decode cX12_feels 21 = .ok (.aload_n 0, 1) := by decide +kernel
theorem dX12_feels_22 : decode cX12_feels 22 = .ok (.getfield 59, 3) := by decide +kernel
theorem dX12_feels_25 : decode cX12_feels 25 = .ok (.iconst 0, 1) := by decide +kernel
theorem dX12_feels_26 : decode cX12_feels 26 = .ok (.aload_n 0, 1) := by decide +kernel
theorem dX12_feels_27 : decode cX12_feels 27 = .ok (.getfield 7, 3) := by decide +kernel
theorem dX12_feels_30 : decode cX12_feels 30 = .ok (.sipush 379, 3) := by decide +kernel
theorem dX12_feels_33 : decode cX12_feels 33 = .ok (.iaload, 1) := by decide +kernel
theorem dX12_feels_34 : decode cX12_feels 34 = .ok (.iastore, 1) := by decide +kernel
theorem dX12_feels_35 : decode cX12_feels 35 = .ok (.aload_n 0, 1) := by decide +kernel
theorem dX12_feels_36 : decode cX12_feels 36 = .ok (.getfield 59, 3) := by decide +kernel
theorem dX12_feels_39 : decode cX12_feels 39 = .ok (.iconst 1, 1) := by decide +kernel
theorem dX12_feels_40 : decode cX12_feels 40 = .ok (.aload_n 0, 1) := by decide +kernel
theorem dX12_feels_41 : decode cX12_feels 41 = .ok (.getfield 7, 3) := by decide +kernel
theorem dX12_feels_44 : decode cX12_feels 44 = .ok (.sipush 379, 3) := by decide +kernel
theorem dX12_feels_47 : decode cX12_feels 47 = .ok (.iaload, 1) := by decide +kernel
theorem dX12_feels_48 : decode cX12_feels 48 = .ok (.bipush 7, 2) := by decide +kernel
theorem dX12_feels_50 : decode cX12_feels 50 = .ok (.irem, 1) := by decide +kernel
theorem dX12_feels_51 : decode cX12_feels 51 = .ok (.iastore, 1) := by decide +kernel
theorem dX12_feels_52 : decode cX12_feels 52 = .ok (.return_, 1) := by decide +kernel
set_option maxRecDepth 20000 in
set_option maxHeartbeats 4000000 in
theorem m_feels (E : xE) (l : Launch) (a : Nat → Nat) (cd : Cd) (hG : Good cd) (ws : va_W) (hW : WX (okM E a cd) ws) (fn : Nat → Int32) (hfn : ws[1]? = some (iA E (a 1) 382 fn)) : xV E l yX12_feels cX12_feels 2 0 0 0 [.ref (a 0)] ws (fun w => WX (okM E a cd) w ∧ keeps ws w (fun q => q = 17) ∧ (fcK E a w (fl0 fn))) := by
  refine xV_start (lv := [(0, .ref (a 0))]) RX12 (by decide) rfl (Nat.le_of_ble_eq_true rfl) rfl (fun p e s m below meth c A C hr hlk hin => ?_)
  have kp0 : keeps ws ws (fun q => q = 17) := keeps_rf
  obtain ⟨_, kq1, fq, pfq, rfl⟩ := hW 1 _ rfl
  obtain rfl := iA_inj (hfn.symm.trans kq1)
  obtain ⟨_, k1, f2, rfl⟩ := hW 17 _ rfl
  refine x_iconst C (v := 0) dX12_feels_0 (by decide) rfl ?_
  refine x_istore_n C (lv' := [(1, .int 0), (0, .ref (a 0))]) dX12_feels_1 rfl (by decide) rfl rfl ?_
  have loop2 : ∀ (fu2 : Nat) (k : Nat) (wl2 : va_W), WX (okM E a cd) wl2 → 11 - k < fu2 → k ≤ 11 → (∃ g : Nat → Int32, wl2[17]? = some (iA E (a 17) 11 g) ∧ ∀ j, j < k → g j = 0) → wl2[1]? = some (iA E (a 1) 382 fn) → keeps ws wl2 (fun q => q = 17) → X E p l e (xRm 0 0 0) s m ([.ref (a 0)] : List Value).toArray below meth c A 2 0 0 (MQ below (va_Qv (fun w => WX (okM E a cd) w ∧ keeps ws w (fun q => q = 17) ∧ (fcK E a w (fl0 fn))) (xB E A) A) ([.ref (a 0)] : List Value).toArray s 0 0 A) wl2 2 [(0, .ref (a 0)), (1, .int (nI k))] [] := by
    intro fu2
    induction fu2 with
    | zero => intro k wl2 _ q; omega
    | succ fu2 ih2 =>
      intro k wl2 hWl2 me2 iv2_0 iv2_1 iv2_2 kq2
      obtain ⟨gf, k17, hz⟩ := iv2_1
      refine x_iload_n C dX12_feels_2 rfl 1 rfl rfl ?_
      refine x_bipush C (v := 11) dX12_feels_3 (by decide) rfl ?_
      refine x_icmp_ge C (tgt := 21) dX12_feels_5 (by decide) rfl (fun c3 => ?_) (fun c3 => ?_)
      · skip
        have nf4 := nI_le' (a := 11) (b := k) c3 (by omega) (by omega)
        refine x_aload_n C dX12_feels_21 rfl 0 rfl rfl ?_
        obtain ⟨_, k5, n6, n8, n10, v12, v13, v14, n15, n17, n19, n21, v23, v24, v25, v26, n27, n29, v31, bn7, bn9, bn11, bn16, bn18, bn20, bn22, bn28, bn30, zv32, rfl⟩ := hWl2 0 _ rfl
        refine x_get C (ci := 11) (k := 26) 0 k5 rfl in_X12 (by decide) w_1144 rfl dX12_feels_22 rfl ?_
        refine x_iconst C (v := 0) dX12_feels_25 (by decide) rfl ?_
        refine x_aload_n C dX12_feels_26 rfl 0 rfl rfl ?_
        refine x_get C (ci := 11) (k := 0) 0 k5 rfl in_X12 (by decide) w_1118 rfl dX12_feels_27 rfl ?_
        refine x_sipush C (v := 379) dX12_feels_30 (by decide) rfl ?_
        refine x_ialk C (v := (fn 379)) 379 (by decide) (by decide) (by decide) 1 iv2_2 rfl dX12_feels_33 rfl ?_
        obtain ⟨w33, hw34⟩ : ∃ w : va_W, w = List.set wl2 17 (iA E (a 17) 11 (upd gf 0 (fn 379))) := ⟨_, rfl⟩
        refine x_iask C 0 (by decide) (by decide) (by decide) 17 k17 hw34.symm dX12_feels_34 rfl ?_
        have hW35 : WX (okM E a cd) w33 := by rw [hw34]; exact hWl2.set (k := 17) rfl ⟨_, rfl⟩
        have k36 : w33[17]? = some (iA E (a 17) 11 (upd gf 0 (fn 379))) := by rw [hw34]; exact set_eq k17
        have k37 : w33[1]? = some (iA E (a 1) 382 fn) := by rw [hw34]; exact set_ne iv2_2 (by decide)
        have k38 : w33[0]? = some (ob (a 0) 11 [.ref (a 1), .ref (a 2), .ref (a 3), .ref (a 4), .int (nI n6), .int (nI n8), .int (nI n10), .int v12, .int v13, .int v14, .int (nI n15), .int (nI n17), .int (nI n19), .int (nI (cd.2.2.2.2.2)), .ref (a 5), .ref (a 6), .ref (a 7), .ref (a 8), .ref (a 9), .ref (a 10), .ref (a 11), .ref (a 12), .ref (a 13), .ref (a 14), .ref (a 15), .ref (a 16), .ref (a 17), .int (nI n21), .ref (a 18), .ref (a 19), .ref (a 20), .ref (a 21), .int v23, .int v24, .int v25, .int v26, .int (nI n27), .int (nI n29), .ref (a 22), .ref (a 23), .ref (a 24), .ref (a 25), .ref (a 26), .ref (a 27), .ref (a 28), .ref (a 29), .ref (a 30), .int v31]) := by rw [hw34]; exact set_ne k5 (by decide)
        have kp39 := keeps_set kq2 hw34 (by first | exact rfl | decide | omega | (dsimp only; omega))
        refine x_aload_n C dX12_feels_35 rfl 0 rfl rfl ?_
        refine x_get C (ci := 11) (k := 26) 0 k38 rfl in_X12 (by decide) w_1144 rfl dX12_feels_36 rfl ?_
        refine x_iconst C (v := 1) dX12_feels_39 (by decide) rfl ?_
        refine x_aload_n C dX12_feels_40 rfl 0 rfl rfl ?_
        refine x_get C (ci := 11) (k := 0) 0 k38 rfl in_X12 (by decide) w_1118 rfl dX12_feels_41 rfl ?_
        refine x_sipush C (v := 379) dX12_feels_44 (by decide) rfl ?_
        refine x_ialk C (v := (fn 379)) 379 (by decide) (by decide) (by decide) 1 k37 rfl dX12_feels_47 rfl ?_
        refine x_bipush C (v := 7) dX12_feels_48 (by decide) rfl ?_
        refine x_irem C (v := ((fn 379) - (fn 379) / (7 : Int32) * (7 : Int32))) dX12_feels_50 (by decide) rfl rfl ?_
        obtain ⟨w40, hw41⟩ : ∃ w : va_W, w = List.set w33 17 (iA E (a 17) 11 (upd (upd gf 0 (fn 379)) 1 ((fn 379) - (fn 379) / (7 : Int32) * (7 : Int32)))) := ⟨_, rfl⟩
        refine x_iask C 1 (by decide) (by decide) (by decide) 17 k36 hw41.symm dX12_feels_51 rfl ?_
        have hW42 : WX (okM E a cd) w40 := by rw [hw41]; exact hW35.set (k := 17) rfl ⟨_, rfl⟩
        have k43 : w40[17]? = some (iA E (a 17) 11 (upd (upd gf 0 (fn 379)) 1 ((fn 379) - (fn 379) / (7 : Int32) * (7 : Int32)))) := by rw [hw41]; exact set_eq k36
        have k44 : w40[1]? = some (iA E (a 1) 382 fn) := by rw [hw41]; exact set_ne k37 (by decide)
        have k45 : w40[0]? = some (ob (a 0) 11 [.ref (a 1), .ref (a 2), .ref (a 3), .ref (a 4), .int (nI n6), .int (nI n8), .int (nI n10), .int v12, .int v13, .int v14, .int (nI n15), .int (nI n17), .int (nI n19), .int (nI (cd.2.2.2.2.2)), .ref (a 5), .ref (a 6), .ref (a 7), .ref (a 8), .ref (a 9), .ref (a 10), .ref (a 11), .ref (a 12), .ref (a 13), .ref (a 14), .ref (a 15), .ref (a 16), .ref (a 17), .int (nI n21), .ref (a 18), .ref (a 19), .ref (a 20), .ref (a 21), .int v23, .int v24, .int v25, .int v26, .int (nI n27), .int (nI n29), .ref (a 22), .ref (a 23), .ref (a 24), .ref (a 25), .ref (a 26), .ref (a 27), .ref (a 28), .ref (a 29), .ref (a 30), .int v31]) := by rw [hw41]; exact set_ne k38 (by decide)
        have kp46 := keeps_set kp39 hw41 (by first | exact rfl | decide | omega | (dsimp only; omega))
        exact x_vret C hr hlk dX12_feels_52 ⟨hW42, kp46, (fc_zero k43 (fun j hj => hz j (by omega)))⟩
      · skip
        have nf47 := nI_nle' (a := 11) (b := k) c3 (by omega) (by omega)
        refine x_aload_n C dX12_feels_8 rfl 0 rfl rfl ?_
        obtain ⟨_, k48, n49, n51, n53, v55, v56, v57, n58, n60, n62, n64, v66, v67, v68, v69, n70, n72, v74, bn50, bn52, bn54, bn59, bn61, bn63, bn65, bn71, bn73, zv75, rfl⟩ := hWl2 0 _ rfl
        refine x_get C (ci := 11) (k := 26) 0 k48 rfl in_X12 (by decide) w_1144 rfl dX12_feels_9 rfl ?_
        refine x_iload_n C dX12_feels_12 rfl 1 rfl rfl ?_
        refine x_iconst C (v := 0) dX12_feels_13 (by decide) rfl ?_
        obtain ⟨w76, hw77⟩ : ∃ w : va_W, w = List.set wl2 17 (iA E (a 17) 11 (upd gf k (0 : Int32))) := ⟨_, rfl⟩
        refine x_iask C k (nI_clamp (by omega)) (nI_pos (by omega)) (by omega) 17 k17 hw77.symm dX12_feels_14 rfl ?_
        have hW78 : WX (okM E a cd) w76 := by rw [hw77]; exact hWl2.set (k := 17) rfl ⟨_, rfl⟩
        have k79 : w76[17]? = some (iA E (a 17) 11 (upd gf k (0 : Int32))) := by rw [hw77]; exact set_eq k17
        have k80 : w76[1]? = some (iA E (a 1) 382 fn) := by rw [hw77]; exact set_ne iv2_2 (by decide)
        have k81 : w76[0]? = some (ob (a 0) 11 [.ref (a 1), .ref (a 2), .ref (a 3), .ref (a 4), .int (nI n49), .int (nI n51), .int (nI n53), .int v55, .int v56, .int v57, .int (nI n58), .int (nI n60), .int (nI n62), .int (nI (cd.2.2.2.2.2)), .ref (a 5), .ref (a 6), .ref (a 7), .ref (a 8), .ref (a 9), .ref (a 10), .ref (a 11), .ref (a 12), .ref (a 13), .ref (a 14), .ref (a 15), .ref (a 16), .ref (a 17), .int (nI n64), .ref (a 18), .ref (a 19), .ref (a 20), .ref (a 21), .int v66, .int v67, .int v68, .int v69, .int (nI n70), .int (nI n72), .ref (a 22), .ref (a 23), .ref (a 24), .ref (a 25), .ref (a 26), .ref (a 27), .ref (a 28), .ref (a 29), .ref (a 30), .int v74]) := by rw [hw77]; exact set_ne k48 (by decide)
        have kp82 := keeps_set kq2 hw77 (by first | exact rfl | decide | omega | (dsimp only; omega))
        refine x_iinc C (v := (nI (k + 1))) (lv' := [(1, .int (nI (k + 1))), (0, .ref (a 0))]) dX12_feels_15 1 rfl (nI_add k 1) (by decide) rfl rfl ?_
        refine x_goto C (tgt := 2) dX12_feels_18 (by decide) ?_
        refine x_lv (lv1 := [(0, .ref (a 0)), (1, .int (nI (k + 1)))]) [1, 0] rfl ?_
        exact ih2 (k + 1) w76 hW78 (by omega) (by omega) ⟨_, k79, zf_step hz⟩ k80 kp82
  refine x_lv (lv1 := [(0, .ref (a 0)), (1, .int 0)]) [1, 0] rfl ?_
  exact loop2 _ 0 ws hW (Nat.lt_succ_self _) (by omega) ⟨_, k1, fun j hj => absurd hj (by omega)⟩ hfn kp0
theorem dX12_feelsHen_0 : decode cX12_feelsHen 0 = .ok (.aload_n 0, 1) := by decide +kernel
theorem dX12_feelsHen_1 : decode cX12_feelsHen 1 = .ok (.invokevirtual 234, 3) := by decide +kernel
theorem dX12_feelsHen_4 : decode cX12_feelsHen 4 = .ok (.aload_n 0, 1) := by decide +kernel
theorem dX12_feelsHen_5 : decode cX12_feelsHen 5 = .ok (.getfield 59, 3) := by decide +kernel
theorem dX12_feelsHen_8 : decode cX12_feelsHen 8 = .ok (.iconst 2, 1) := by decide +kernel
theorem dX12_feelsHen_9 : decode cX12_feelsHen 9 = .ok (.iload_n 1, 1) := by decide +kernel
theorem dX12_feelsHen_10 : decode cX12_feelsHen 10 = .ok (.iastore, 1) := by decide +kernel
theorem dX12_feelsHen_11 : decode cX12_feelsHen 11 = .ok (.aload_n 0, 1) := by decide +kernel
theorem dX12_feelsHen_12 : decode cX12_feelsHen 12 = .ok (.getfield 59, 3) := by decide +kernel
theorem dX12_feelsHen_15 : decode cX12_feelsHen 15 = .ok (.iconst 3, 1) := by decide +kernel
theorem dX12_feelsHen_16 : decode cX12_feelsHen 16 = .ok (.aload_n 0, 1) := by decide +kernel
theorem dX12_feelsHen_17 : decode cX12_feelsHen 17 = .ok (.getfield 7, 3) := by decide +kernel
theorem dX12_feelsHen_20 : decode cX12_feelsHen 20 = .ok (.sipush 321, 3) := by decide +kernel
theorem dX12_feelsHen_23 : decode cX12_feelsHen 23 = .ok (.iload_n 1, 1) := by decide +kernel
theorem dX12_feelsHen_24 : decode cX12_feelsHen 24 = .ok (.iadd, 1) := by decide +kernel
theorem dX12_feelsHen_25 : decode cX12_feelsHen 25 = .ok (.iaload, 1) := by decide +kernel
theorem dX12_feelsHen_26 : decode cX12_feelsHen 26 = .ok (.iastore, 1) := by decide +kernel
theorem dX12_feelsHen_27 : decode cX12_feelsHen 27 = .ok (.aload_n 0, 1) := by decide +kernel
theorem dX12_feelsHen_28 : decode cX12_feelsHen 28 = .ok (.getfield 59, 3) := by decide +kernel
theorem dX12_feelsHen_31 : decode cX12_feelsHen 31 = .ok (.iconst 4, 1) := by decide +kernel
theorem dX12_feelsHen_32 : decode cX12_feelsHen 32 = .ok (.iload_n 2, 1) := by decide +kernel
theorem dX12_feelsHen_33 : decode cX12_feelsHen 33 = .ok (.iastore, 1) := by decide +kernel
theorem dX12_feelsHen_34 : decode cX12_feelsHen 34 = .ok (.aload_n 0, 1) := by decide +kernel
theorem dX12_feelsHen_35 : decode cX12_feelsHen 35 = .ok (.getfield 59, 3) := by decide +kernel
theorem dX12_feelsHen_38 : decode cX12_feelsHen 38 = .ok (.bipush 8, 2) := by decide +kernel
theorem dX12_feelsHen_40 : decode cX12_feelsHen 40 = .ok (.aload_n 0, 1) := by decide +kernel
theorem dX12_feelsHen_41 : decode cX12_feelsHen 41 = .ok (.getfield 7, 3) := by decide +kernel
theorem dX12_feelsHen_44 : decode cX12_feelsHen 44 = .ok (.sipush 329, 3) := by decide +kernel
theorem dX12_feelsHen_47 : decode cX12_feelsHen 47 = .ok (.iload_n 1, 1) := by decide +kernel
theorem dX12_feelsHen_48 : decode cX12_feelsHen 48 = .ok (.iadd, 1) := by decide +kernel
theorem dX12_feelsHen_49 : decode cX12_feelsHen 49 = .ok (.iaload, 1) := by decide +kernel
theorem dX12_feelsHen_50 : decode cX12_feelsHen 50 = .ok (.iastore, 1) := by decide +kernel
theorem dX12_feelsHen_51 : decode cX12_feelsHen 51 = .ok (.return_, 1) := by decide +kernel
set_option maxRecDepth 20000 in
set_option maxHeartbeats 4000000 in
theorem m_feelsHen (E : xE) (l : Launch) (a : Nat → Nat) (cd : Cd) (hG : Good cd) (ws : va_W) (hW : WX (okM E a cd) ws) (y0 : Nat) (d0 : Int32) (hy0 : y0 ≤ 7) (fn : Nat → Int32) (hfn : ws[1]? = some (iA E (a 1) 382 fn)) : xV E l yX12_feelsHen cX12_feelsHen 3 1 0 0 [.ref (a 0), .int (nI y0), .int d0] ws (fun w => WX (okM E a cd) w ∧ keeps ws w (fun q => q = 17) ∧ (fcK E a w (flH fn (nI y0) d0 y0))) := by
  refine xV_start (lv := [(0, .ref (a 0)), (1, .int (nI y0)), (2, .int d0)]) RX12 (by decide) rfl (Nat.le_of_ble_eq_true rfl) rfl (fun p e s m below meth c A C hr hlk hin => ?_)
  have kp0 : keeps ws ws (fun q => q = 17) := keeps_rf
  obtain ⟨_, kq1, fq, pfq, rfl⟩ := hW 1 _ rfl
  obtain rfl := iA_inj (hfn.symm.trans kq1)
  refine x_aload_n C dX12_feelsHen_0 rfl 0 rfl rfl ?_
  obtain ⟨_, k1, n2, n4, n6, v8, v9, v10, n11, n13, n15, n17, v19, v20, v21, v22, n23, n25, v27, bn3, bn5, bn7, bn12, bn14, bn16, bn18, bn24, bn26, zv28, rfl⟩ := hW 0 _ rfl
  refine x_vv C (As := []) (rest := []) (m_feels E l a cd hG ws hW fn hfn) mf_X12_feels w_1459 0 k1 rfl rfl rfl (Nat.le_of_ble_eq_true rfl) ⟨(Nat.le_of_ble_eq_true rfl), (Nat.le_of_ble_eq_true rfl)⟩ ⟨(Nat.le_of_ble_eq_true rfl), (Nat.le_of_ble_eq_true rfl)⟩ dX12_feelsHen_1 rfl (fun w31 h29 => ?_)
  obtain ⟨hW32, kq33, x34⟩ := h29
  have k35 : w31[1]? = some (iA E (a 1) 382 fn) := keeps_at kq33 hfn (by first | decide | omega | (dsimp only; omega))
  have k36 : w31[0]? = some (ob (a 0) 11 [.ref (a 1), .ref (a 2), .ref (a 3), .ref (a 4), .int (nI n2), .int (nI n4), .int (nI n6), .int v8, .int v9, .int v10, .int (nI n11), .int (nI n13), .int (nI n15), .int (nI (cd.2.2.2.2.2)), .ref (a 5), .ref (a 6), .ref (a 7), .ref (a 8), .ref (a 9), .ref (a 10), .ref (a 11), .ref (a 12), .ref (a 13), .ref (a 14), .ref (a 15), .ref (a 16), .ref (a 17), .int (nI n17), .ref (a 18), .ref (a 19), .ref (a 20), .ref (a 21), .int v19, .int v20, .int v21, .int v22, .int (nI n23), .int (nI n25), .ref (a 22), .ref (a 23), .ref (a 24), .ref (a 25), .ref (a 26), .ref (a 27), .ref (a 28), .ref (a 29), .ref (a 30), .int v27]) := keeps_at kq33 k1 (by first | decide | omega | (dsimp only; omega))
  have kp37 := keeps_tr kp0 kq33 (fun q hq => by first | omega | (dsimp only at *; omega))
  obtain ⟨g38, k39, ecl40⟩ := x34
  refine x_aload_n C dX12_feelsHen_4 rfl 0 rfl rfl ?_
  refine x_get C (ci := 11) (k := 26) 0 k36 rfl in_X12 (by decide) w_1144 rfl dX12_feelsHen_5 rfl ?_
  refine x_iconst C (v := 2) dX12_feelsHen_8 (by decide) rfl ?_
  refine x_iload_n C dX12_feelsHen_9 rfl 1 rfl rfl ?_
  obtain ⟨w41, hw42⟩ : ∃ w : va_W, w = List.set w31 17 (iA E (a 17) 11 (upd g38 2 (nI y0))) := ⟨_, rfl⟩
  refine x_iask C 2 (by decide) (by decide) (by decide) 17 k39 hw42.symm dX12_feelsHen_10 rfl ?_
  have hW43 : WX (okM E a cd) w41 := by rw [hw42]; exact hW32.set (k := 17) rfl ⟨_, rfl⟩
  have k44 : w41[1]? = some (iA E (a 1) 382 fn) := by rw [hw42]; exact set_ne k35 (by decide)
  have k45 : w41[0]? = some (ob (a 0) 11 [.ref (a 1), .ref (a 2), .ref (a 3), .ref (a 4), .int (nI n2), .int (nI n4), .int (nI n6), .int v8, .int v9, .int v10, .int (nI n11), .int (nI n13), .int (nI n15), .int (nI (cd.2.2.2.2.2)), .ref (a 5), .ref (a 6), .ref (a 7), .ref (a 8), .ref (a 9), .ref (a 10), .ref (a 11), .ref (a 12), .ref (a 13), .ref (a 14), .ref (a 15), .ref (a 16), .ref (a 17), .int (nI n17), .ref (a 18), .ref (a 19), .ref (a 20), .ref (a 21), .int v19, .int v20, .int v21, .int v22, .int (nI n23), .int (nI n25), .ref (a 22), .ref (a 23), .ref (a 24), .ref (a 25), .ref (a 26), .ref (a 27), .ref (a 28), .ref (a 29), .ref (a 30), .int v27]) := by rw [hw42]; exact set_ne k36 (by decide)
  have k46 : w41[17]? = some (iA E (a 17) 11 (upd g38 2 (nI y0))) := by rw [hw42]; exact set_eq k39
  have kp47 := keeps_set kp37 hw42 (by first | exact rfl | decide | omega | (dsimp only; omega))
  refine x_aload_n C dX12_feelsHen_11 rfl 0 rfl rfl ?_
  refine x_get C (ci := 11) (k := 26) 0 k45 rfl in_X12 (by decide) w_1144 rfl dX12_feelsHen_12 rfl ?_
  refine x_iconst C (v := 3) dX12_feelsHen_15 (by decide) rfl ?_
  refine x_aload_n C dX12_feelsHen_16 rfl 0 rfl rfl ?_
  refine x_get C (ci := 11) (k := 0) 0 k45 rfl in_X12 (by decide) w_1118 rfl dX12_feelsHen_17 rfl ?_
  refine x_sipush C (v := 321) dX12_feelsHen_20 (by decide) rfl ?_
  refine x_iload_n C dX12_feelsHen_23 rfl 1 rfl rfl ?_
  refine x_iadd C (v := (nI (321 + y0))) dX12_feelsHen_24 (nI_add 321 y0) rfl ?_
  refine x_ialk C (v := (fn (321 + y0))) (321 + y0) (nI_clamp (by omega)) (nI_pos (by omega)) (by omega) 1 k44 rfl dX12_feelsHen_25 rfl ?_
  obtain ⟨w48, hw49⟩ : ∃ w : va_W, w = List.set w41 17 (iA E (a 17) 11 (upd (upd g38 2 (nI y0)) 3 (fn (321 + y0)))) := ⟨_, rfl⟩
  refine x_iask C 3 (by decide) (by decide) (by decide) 17 k46 hw49.symm dX12_feelsHen_26 rfl ?_
  have hW50 : WX (okM E a cd) w48 := by rw [hw49]; exact hW43.set (k := 17) rfl ⟨_, rfl⟩
  have k51 : w48[1]? = some (iA E (a 1) 382 fn) := by rw [hw49]; exact set_ne k44 (by decide)
  have k52 : w48[0]? = some (ob (a 0) 11 [.ref (a 1), .ref (a 2), .ref (a 3), .ref (a 4), .int (nI n2), .int (nI n4), .int (nI n6), .int v8, .int v9, .int v10, .int (nI n11), .int (nI n13), .int (nI n15), .int (nI (cd.2.2.2.2.2)), .ref (a 5), .ref (a 6), .ref (a 7), .ref (a 8), .ref (a 9), .ref (a 10), .ref (a 11), .ref (a 12), .ref (a 13), .ref (a 14), .ref (a 15), .ref (a 16), .ref (a 17), .int (nI n17), .ref (a 18), .ref (a 19), .ref (a 20), .ref (a 21), .int v19, .int v20, .int v21, .int v22, .int (nI n23), .int (nI n25), .ref (a 22), .ref (a 23), .ref (a 24), .ref (a 25), .ref (a 26), .ref (a 27), .ref (a 28), .ref (a 29), .ref (a 30), .int v27]) := by rw [hw49]; exact set_ne k45 (by decide)
  have k53 : w48[17]? = some (iA E (a 17) 11 (upd (upd g38 2 (nI y0)) 3 (fn (321 + y0)))) := by rw [hw49]; exact set_eq k46
  have kp54 := keeps_set kp47 hw49 (by first | exact rfl | decide | omega | (dsimp only; omega))
  refine x_aload_n C dX12_feelsHen_27 rfl 0 rfl rfl ?_
  refine x_get C (ci := 11) (k := 26) 0 k52 rfl in_X12 (by decide) w_1144 rfl dX12_feelsHen_28 rfl ?_
  refine x_iconst C (v := 4) dX12_feelsHen_31 (by decide) rfl ?_
  refine x_iload_n C dX12_feelsHen_32 rfl 2 rfl rfl ?_
  obtain ⟨w55, hw56⟩ : ∃ w : va_W, w = List.set w48 17 (iA E (a 17) 11 (upd (upd (upd g38 2 (nI y0)) 3 (fn (321 + y0))) 4 d0)) := ⟨_, rfl⟩
  refine x_iask C 4 (by decide) (by decide) (by decide) 17 k53 hw56.symm dX12_feelsHen_33 rfl ?_
  have hW57 : WX (okM E a cd) w55 := by rw [hw56]; exact hW50.set (k := 17) rfl ⟨_, rfl⟩
  have k58 : w55[1]? = some (iA E (a 1) 382 fn) := by rw [hw56]; exact set_ne k51 (by decide)
  have k59 : w55[0]? = some (ob (a 0) 11 [.ref (a 1), .ref (a 2), .ref (a 3), .ref (a 4), .int (nI n2), .int (nI n4), .int (nI n6), .int v8, .int v9, .int v10, .int (nI n11), .int (nI n13), .int (nI n15), .int (nI (cd.2.2.2.2.2)), .ref (a 5), .ref (a 6), .ref (a 7), .ref (a 8), .ref (a 9), .ref (a 10), .ref (a 11), .ref (a 12), .ref (a 13), .ref (a 14), .ref (a 15), .ref (a 16), .ref (a 17), .int (nI n17), .ref (a 18), .ref (a 19), .ref (a 20), .ref (a 21), .int v19, .int v20, .int v21, .int v22, .int (nI n23), .int (nI n25), .ref (a 22), .ref (a 23), .ref (a 24), .ref (a 25), .ref (a 26), .ref (a 27), .ref (a 28), .ref (a 29), .ref (a 30), .int v27]) := by rw [hw56]; exact set_ne k52 (by decide)
  have k60 : w55[17]? = some (iA E (a 17) 11 (upd (upd (upd g38 2 (nI y0)) 3 (fn (321 + y0))) 4 d0)) := by rw [hw56]; exact set_eq k53
  have kp61 := keeps_set kp54 hw56 (by first | exact rfl | decide | omega | (dsimp only; omega))
  refine x_aload_n C dX12_feelsHen_34 rfl 0 rfl rfl ?_
  refine x_get C (ci := 11) (k := 26) 0 k59 rfl in_X12 (by decide) w_1144 rfl dX12_feelsHen_35 rfl ?_
  refine x_bipush C (v := 8) dX12_feelsHen_38 (by decide) rfl ?_
  refine x_aload_n C dX12_feelsHen_40 rfl 0 rfl rfl ?_
  refine x_get C (ci := 11) (k := 0) 0 k59 rfl in_X12 (by decide) w_1118 rfl dX12_feelsHen_41 rfl ?_
  refine x_sipush C (v := 329) dX12_feelsHen_44 (by decide) rfl ?_
  refine x_iload_n C dX12_feelsHen_47 rfl 1 rfl rfl ?_
  refine x_iadd C (v := (nI (329 + y0))) dX12_feelsHen_48 (nI_add 329 y0) rfl ?_
  refine x_ialk C (v := (fn (329 + y0))) (329 + y0) (nI_clamp (by omega)) (nI_pos (by omega)) (by omega) 1 k58 rfl dX12_feelsHen_49 rfl ?_
  obtain ⟨w62, hw63⟩ : ∃ w : va_W, w = List.set w55 17 (iA E (a 17) 11 (upd (upd (upd (upd g38 2 (nI y0)) 3 (fn (321 + y0))) 4 d0) 8 (fn (329 + y0)))) := ⟨_, rfl⟩
  refine x_iask C 8 (by decide) (by decide) (by decide) 17 k60 hw63.symm dX12_feelsHen_50 rfl ?_
  have hW64 : WX (okM E a cd) w62 := by rw [hw63]; exact hW57.set (k := 17) rfl ⟨_, rfl⟩
  have k65 : w62[1]? = some (iA E (a 1) 382 fn) := by rw [hw63]; exact set_ne k58 (by decide)
  have k66 : w62[0]? = some (ob (a 0) 11 [.ref (a 1), .ref (a 2), .ref (a 3), .ref (a 4), .int (nI n2), .int (nI n4), .int (nI n6), .int v8, .int v9, .int v10, .int (nI n11), .int (nI n13), .int (nI n15), .int (nI (cd.2.2.2.2.2)), .ref (a 5), .ref (a 6), .ref (a 7), .ref (a 8), .ref (a 9), .ref (a 10), .ref (a 11), .ref (a 12), .ref (a 13), .ref (a 14), .ref (a 15), .ref (a 16), .ref (a 17), .int (nI n17), .ref (a 18), .ref (a 19), .ref (a 20), .ref (a 21), .int v19, .int v20, .int v21, .int v22, .int (nI n23), .int (nI n25), .ref (a 22), .ref (a 23), .ref (a 24), .ref (a 25), .ref (a 26), .ref (a 27), .ref (a 28), .ref (a 29), .ref (a 30), .int v27]) := by rw [hw63]; exact set_ne k59 (by decide)
  have k67 : w62[17]? = some (iA E (a 17) 11 (upd (upd (upd (upd g38 2 (nI y0)) 3 (fn (321 + y0))) 4 d0) 8 (fn (329 + y0)))) := by rw [hw63]; exact set_eq k60
  have kp68 := keeps_set kp61 hw63 (by first | exact rfl | decide | omega | (dsimp only; omega))
  exact x_vret C hr hlk dX12_feelsHen_51 ⟨hW64, kp68, (⟨_, k67, clip_upd (clip_upd (clip_upd (clip_upd (ecl40))))⟩)⟩
theorem dX12_feelsEgg_0 : decode cX12_feelsEgg 0 = .ok (.aload_n 0, 1) := by decide +kernel
theorem dX12_feelsEgg_1 : decode cX12_feelsEgg 1 = .ok (.invokevirtual 234, 3) := by decide +kernel
theorem dX12_feelsEgg_4 : decode cX12_feelsEgg 4 = .ok (.aload_n 0, 1) := by decide +kernel
theorem dX12_feelsEgg_5 : decode cX12_feelsEgg 5 = .ok (.getfield 59, 3) := by decide +kernel
theorem dX12_feelsEgg_8 : decode cX12_feelsEgg 8 = .ok (.iconst 2, 1) := by decide +kernel
theorem dX12_feelsEgg_9 : decode cX12_feelsEgg 9 = .ok (.aload_n 0, 1) := by decide +kernel
theorem dX12_feelsEgg_10 : decode cX12_feelsEgg 10 = .ok (.getfield 7, 3) := by decide +kernel
theorem dX12_feelsEgg_13 : decode cX12_feelsEgg 13 = .ok (.bipush 96, 2) := by decide +kernel
theorem dX12_feelsEgg_15 : decode cX12_feelsEgg 15 = .ok (.iload_n 1, 1) := by decide +kernel
theorem dX12_feelsEgg_16 : decode cX12_feelsEgg 16 = .ok (.iadd, 1) := by decide +kernel
theorem dX12_feelsEgg_17 : decode cX12_feelsEgg 17 = .ok (.iaload, 1) := by decide +kernel
theorem dX12_feelsEgg_18 : decode cX12_feelsEgg 18 = .ok (.iastore, 1) := by decide +kernel
theorem dX12_feelsEgg_19 : decode cX12_feelsEgg 19 = .ok (.aload_n 0, 1) := by decide +kernel
theorem dX12_feelsEgg_20 : decode cX12_feelsEgg 20 = .ok (.getfield 59, 3) := by decide +kernel
theorem dX12_feelsEgg_23 : decode cX12_feelsEgg 23 = .ok (.iconst 3, 1) := by decide +kernel
theorem dX12_feelsEgg_24 : decode cX12_feelsEgg 24 = .ok (.aload_n 0, 1) := by decide +kernel
theorem dX12_feelsEgg_25 : decode cX12_feelsEgg 25 = .ok (.getfield 7, 3) := by decide +kernel
theorem dX12_feelsEgg_28 : decode cX12_feelsEgg 28 = .ok (.sipush 321, 3) := by decide +kernel
theorem dX12_feelsEgg_31 : decode cX12_feelsEgg 31 = .ok (.aload_n 0, 1) := by decide +kernel
theorem dX12_feelsEgg_32 : decode cX12_feelsEgg 32 = .ok (.getfield 7, 3) := by decide +kernel
theorem dX12_feelsEgg_35 : decode cX12_feelsEgg 35 = .ok (.bipush 96, 2) := by decide +kernel
theorem dX12_feelsEgg_37 : decode cX12_feelsEgg 37 = .ok (.iload_n 1, 1) := by decide +kernel
theorem dX12_feelsEgg_38 : decode cX12_feelsEgg 38 = .ok (.iadd, 1) := by decide +kernel
theorem dX12_feelsEgg_39 : decode cX12_feelsEgg 39 = .ok (.iaload, 1) := by decide +kernel
theorem dX12_feelsEgg_40 : decode cX12_feelsEgg 40 = .ok (.iadd, 1) := by decide +kernel
theorem dX12_feelsEgg_41 : decode cX12_feelsEgg 41 = .ok (.iaload, 1) := by decide +kernel
theorem dX12_feelsEgg_42 : decode cX12_feelsEgg 42 = .ok (.iastore, 1) := by decide +kernel
theorem dX12_feelsEgg_43 : decode cX12_feelsEgg 43 = .ok (.aload_n 0, 1) := by decide +kernel
theorem dX12_feelsEgg_44 : decode cX12_feelsEgg 44 = .ok (.getfield 59, 3) := by decide +kernel
theorem dX12_feelsEgg_47 : decode cX12_feelsEgg 47 = .ok (.iconst 5, 1) := by decide +kernel
theorem dX12_feelsEgg_48 : decode cX12_feelsEgg 48 = .ok (.aload_n 0, 1) := by decide +kernel
theorem dX12_feelsEgg_49 : decode cX12_feelsEgg 49 = .ok (.getfield 7, 3) := by decide +kernel
theorem dX12_feelsEgg_52 : decode cX12_feelsEgg 52 = .ok (.iconst 0, 1) := by decide +kernel
theorem dX12_feelsEgg_53 : decode cX12_feelsEgg 53 = .ok (.iload_n 1, 1) := by decide +kernel
theorem dX12_feelsEgg_54 : decode cX12_feelsEgg 54 = .ok (.iadd, 1) := by decide +kernel
theorem dX12_feelsEgg_55 : decode cX12_feelsEgg 55 = .ok (.iaload, 1) := by decide +kernel
theorem dX12_feelsEgg_56 : decode cX12_feelsEgg 56 = .ok (.iastore, 1) := by decide +kernel
theorem dX12_feelsEgg_57 : decode cX12_feelsEgg 57 = .ok (.aload_n 0, 1) := by decide +kernel
theorem dX12_feelsEgg_58 : decode cX12_feelsEgg 58 = .ok (.getfield 59, 3) := by decide +kernel
theorem dX12_feelsEgg_61 : decode cX12_feelsEgg 61 = .ok (.bipush 6, 2) := by decide +kernel
theorem dX12_feelsEgg_63 : decode cX12_feelsEgg 63 = .ok (.aload_n 0, 1) := by decide +kernel
theorem dX12_feelsEgg_64 : decode cX12_feelsEgg 64 = .ok (.getfield 7, 3) := by decide +kernel
theorem dX12_feelsEgg_67 : decode cX12_feelsEgg 67 = .ok (.sipush 379, 3) := by decide +kernel
theorem dX12_feelsEgg_70 : decode cX12_feelsEgg 70 = .ok (.iaload, 1) := by decide +kernel
theorem dX12_feelsEgg_71 : decode cX12_feelsEgg 71 = .ok (.aload_n 0, 1) := by decide +kernel
theorem dX12_feelsEgg_72 : decode cX12_feelsEgg 72 = .ok (.getfield 7, 3) := by decide +kernel
theorem dX12_feelsEgg_75 : decode cX12_feelsEgg 75 = .ok (.bipush 48, 2) := by decide +kernel
theorem dX12_feelsEgg_77 : decode cX12_feelsEgg 77 = .ok (.iload_n 1, 1) := by decide +kernel
theorem dX12_feelsEgg_78 : decode cX12_feelsEgg 78 = .ok (.iadd, 1) := by decide +kernel
theorem dX12_feelsEgg_79 : decode cX12_feelsEgg 79 = .ok (.iaload, 1) := by decide +kernel
theorem dX12_feelsEgg_80 : decode cX12_feelsEgg 80 = .ok (.isub, 1) := by decide +kernel
theorem dX12_feelsEgg_81 : decode cX12_feelsEgg 81 = .ok (.iastore, 1) := by decide +kernel
theorem dX12_feelsEgg_82 : decode cX12_feelsEgg 82 = .ok (.aload_n 0, 1) := by decide +kernel
theorem dX12_feelsEgg_83 : decode cX12_feelsEgg 83 = .ok (.getfield 59, 3) := by decide +kernel
theorem dX12_feelsEgg_86 : decode cX12_feelsEgg 86 = .ok (.bipush 7, 2) := by decide +kernel
theorem dX12_feelsEgg_88 : decode cX12_feelsEgg 88 = .ok (.aload_n 0, 1) := by decide +kernel
theorem dX12_feelsEgg_89 : decode cX12_feelsEgg 89 = .ok (.getfield 7, 3) := by decide +kernel
theorem dX12_feelsEgg_92 : decode cX12_feelsEgg 92 = .ok (.sipush 192, 3) := by decide +kernel
theorem dX12_feelsEgg_95 : decode cX12_feelsEgg 95 = .ok (.iload_n 1, 1) := by decide +kernel
theorem dX12_feelsEgg_96 : decode cX12_feelsEgg 96 = .ok (.iadd, 1) := by decide +kernel
theorem dX12_feelsEgg_97 : decode cX12_feelsEgg 97 = .ok (.iaload, 1) := by decide +kernel
theorem dX12_feelsEgg_98 : decode cX12_feelsEgg 98 = .ok (.iastore, 1) := by decide +kernel
theorem dX12_feelsEgg_99 : decode cX12_feelsEgg 99 = .ok (.aload_n 0, 1) := by decide +kernel
theorem dX12_feelsEgg_100 : decode cX12_feelsEgg 100 = .ok (.getfield 59, 3) := by decide +kernel
theorem dX12_feelsEgg_103 : decode cX12_feelsEgg 103 = .ok (.bipush 8, 2) := by decide +kernel
theorem dX12_feelsEgg_105 : decode cX12_feelsEgg 105 = .ok (.aload_n 0, 1) := by decide +kernel
theorem dX12_feelsEgg_106 : decode cX12_feelsEgg 106 = .ok (.getfield 7, 3) := by decide +kernel
theorem dX12_feelsEgg_109 : decode cX12_feelsEgg 109 = .ok (.sipush 144, 3) := by decide +kernel
theorem dX12_feelsEgg_112 : decode cX12_feelsEgg 112 = .ok (.iload_n 1, 1) := by decide +kernel
theorem dX12_feelsEgg_113 : decode cX12_feelsEgg 113 = .ok (.iadd, 1) := by decide +kernel
theorem dX12_feelsEgg_114 : decode cX12_feelsEgg 114 = .ok (.iaload, 1) := by decide +kernel
theorem dX12_feelsEgg_115 : decode cX12_feelsEgg 115 = .ok (.iastore, 1) := by decide +kernel
theorem dX12_feelsEgg_116 : decode cX12_feelsEgg 116 = .ok (.return_, 1) := by decide +kernel
set_option maxRecDepth 20000 in
set_option maxHeartbeats 4000000 in
theorem m_feelsEgg (E : xE) (l : Launch) (a : Nat → Nat) (cd : Cd) (hG : Good cd) (ws : va_W) (hW : WX (okM E a cd) ws) (i0 : Nat) (hi0 : i0 ≤ 47) (fn : Nat → Int32) (hfn : ws[1]? = some (iA E (a 1) 382 fn)) : xV E l yX12_feelsEgg cX12_feelsEgg 2 1 0 0 [.ref (a 0), .int (nI i0)] ws (fun w => WX (okM E a cd) w ∧ keeps ws w (fun q => q = 17) ∧ (fcK E a w (flE fn i0))) := by
  refine xV_start (lv := [(0, .ref (a 0)), (1, .int (nI i0))]) RX12 (by decide) rfl (Nat.le_of_ble_eq_true rfl) rfl (fun p e s m below meth c A C hr hlk hin => ?_)
  have kp0 : keeps ws ws (fun q => q = 17) := keeps_rf
  obtain ⟨_, kq1, fq, pfq, rfl⟩ := hW 1 _ rfl
  obtain rfl := iA_inj (hfn.symm.trans kq1)
  refine x_aload_n C dX12_feelsEgg_0 rfl 0 rfl rfl ?_
  obtain ⟨_, k1, n2, n4, n6, v8, v9, v10, n11, n13, n15, n17, v19, v20, v21, v22, n23, n25, v27, bn3, bn5, bn7, bn12, bn14, bn16, bn18, bn24, bn26, zv28, rfl⟩ := hW 0 _ rfl
  refine x_vv C (As := []) (rest := []) (m_feels E l a cd hG ws hW fn hfn) mf_X12_feels w_1459 0 k1 rfl rfl rfl (Nat.le_of_ble_eq_true rfl) ⟨(Nat.le_of_ble_eq_true rfl), (Nat.le_of_ble_eq_true rfl)⟩ ⟨(Nat.le_of_ble_eq_true rfl), (Nat.le_of_ble_eq_true rfl)⟩ dX12_feelsEgg_1 rfl (fun w31 h29 => ?_)
  obtain ⟨hW32, kq33, x34⟩ := h29
  have k35 : w31[1]? = some (iA E (a 1) 382 fn) := keeps_at kq33 hfn (by first | decide | omega | (dsimp only; omega))
  have k36 : w31[0]? = some (ob (a 0) 11 [.ref (a 1), .ref (a 2), .ref (a 3), .ref (a 4), .int (nI n2), .int (nI n4), .int (nI n6), .int v8, .int v9, .int v10, .int (nI n11), .int (nI n13), .int (nI n15), .int (nI (cd.2.2.2.2.2)), .ref (a 5), .ref (a 6), .ref (a 7), .ref (a 8), .ref (a 9), .ref (a 10), .ref (a 11), .ref (a 12), .ref (a 13), .ref (a 14), .ref (a 15), .ref (a 16), .ref (a 17), .int (nI n17), .ref (a 18), .ref (a 19), .ref (a 20), .ref (a 21), .int v19, .int v20, .int v21, .int v22, .int (nI n23), .int (nI n25), .ref (a 22), .ref (a 23), .ref (a 24), .ref (a 25), .ref (a 26), .ref (a 27), .ref (a 28), .ref (a 29), .ref (a 30), .int v27]) := keeps_at kq33 k1 (by first | decide | omega | (dsimp only; omega))
  have kp37 := keeps_tr kp0 kq33 (fun q hq => by first | omega | (dsimp only at *; omega))
  obtain ⟨g38, k39, ecl40⟩ := x34
  refine x_aload_n C dX12_feelsEgg_4 rfl 0 rfl rfl ?_
  refine x_get C (ci := 11) (k := 26) 0 k36 rfl in_X12 (by decide) w_1144 rfl dX12_feelsEgg_5 rfl ?_
  refine x_iconst C (v := 2) dX12_feelsEgg_8 (by decide) rfl ?_
  refine x_aload_n C dX12_feelsEgg_9 rfl 0 rfl rfl ?_
  refine x_get C (ci := 11) (k := 0) 0 k36 rfl in_X12 (by decide) w_1118 rfl dX12_feelsEgg_10 rfl ?_
  refine x_bipush C (v := 96) dX12_feelsEgg_13 (by decide) rfl ?_
  refine x_iload_n C dX12_feelsEgg_15 rfl 1 rfl rfl ?_
  refine x_iadd C (v := (nI (96 + i0))) dX12_feelsEgg_16 (nI_add 96 i0) rfl ?_
  refine x_ialk C (v := (fn (96 + i0))) (96 + i0) (nI_clamp (by omega)) (nI_pos (by omega)) (by omega) 1 k35 rfl dX12_feelsEgg_17 rfl ?_
  obtain ⟨w41, hw42⟩ : ∃ w : va_W, w = List.set w31 17 (iA E (a 17) 11 (upd g38 2 (fn (96 + i0)))) := ⟨_, rfl⟩
  refine x_iask C 2 (by decide) (by decide) (by decide) 17 k39 hw42.symm dX12_feelsEgg_18 rfl ?_
  have hW43 : WX (okM E a cd) w41 := by rw [hw42]; exact hW32.set (k := 17) rfl ⟨_, rfl⟩
  have k44 : w41[1]? = some (iA E (a 1) 382 fn) := by rw [hw42]; exact set_ne k35 (by decide)
  have k45 : w41[0]? = some (ob (a 0) 11 [.ref (a 1), .ref (a 2), .ref (a 3), .ref (a 4), .int (nI n2), .int (nI n4), .int (nI n6), .int v8, .int v9, .int v10, .int (nI n11), .int (nI n13), .int (nI n15), .int (nI (cd.2.2.2.2.2)), .ref (a 5), .ref (a 6), .ref (a 7), .ref (a 8), .ref (a 9), .ref (a 10), .ref (a 11), .ref (a 12), .ref (a 13), .ref (a 14), .ref (a 15), .ref (a 16), .ref (a 17), .int (nI n17), .ref (a 18), .ref (a 19), .ref (a 20), .ref (a 21), .int v19, .int v20, .int v21, .int v22, .int (nI n23), .int (nI n25), .ref (a 22), .ref (a 23), .ref (a 24), .ref (a 25), .ref (a 26), .ref (a 27), .ref (a 28), .ref (a 29), .ref (a 30), .int v27]) := by rw [hw42]; exact set_ne k36 (by decide)
  have k46 : w41[17]? = some (iA E (a 17) 11 (upd g38 2 (fn (96 + i0)))) := by rw [hw42]; exact set_eq k39
  have kp47 := keeps_set kp37 hw42 (by first | exact rfl | decide | omega | (dsimp only; omega))
  refine x_aload_n C dX12_feelsEgg_19 rfl 0 rfl rfl ?_
  refine x_get C (ci := 11) (k := 26) 0 k45 rfl in_X12 (by decide) w_1144 rfl dX12_feelsEgg_20 rfl ?_
  refine x_iconst C (v := 3) dX12_feelsEgg_23 (by decide) rfl ?_
  refine x_aload_n C dX12_feelsEgg_24 rfl 0 rfl rfl ?_
  refine x_get C (ci := 11) (k := 0) 0 k45 rfl in_X12 (by decide) w_1118 rfl dX12_feelsEgg_25 rfl ?_
  refine x_sipush C (v := 321) dX12_feelsEgg_28 (by decide) rfl ?_
  refine x_aload_n C dX12_feelsEgg_31 rfl 0 rfl rfl ?_
  refine x_get C (ci := 11) (k := 0) 0 k45 rfl in_X12 (by decide) w_1118 rfl dX12_feelsEgg_32 rfl ?_
  refine x_bipush C (v := 96) dX12_feelsEgg_35 (by decide) rfl ?_
  refine x_iload_n C dX12_feelsEgg_37 rfl 1 rfl rfl ?_
  refine x_iadd C (v := (nI (96 + i0))) dX12_feelsEgg_38 (nI_add 96 i0) rfl ?_
  refine x_ialk C (v := (fn (96 + i0))) (96 + i0) (nI_clamp (by omega)) (nI_pos (by omega)) (by omega) 1 k44 rfl dX12_feelsEgg_39 rfl ?_
  obtain ⟨n48, hn49, en50⟩ := NB_hen (j := i0) pfq (by omega)
  refine x_top en50 ?_
  refine x_iadd C (v := (nI (321 + n48))) dX12_feelsEgg_40 (nI_add 321 n48) rfl ?_
  refine x_ialk C (v := (fn (321 + n48))) (321 + n48) (nI_clamp (by omega)) (nI_pos (by omega)) (by omega) 1 k44 rfl dX12_feelsEgg_41 rfl ?_
  obtain ⟨w51, hw52⟩ : ∃ w : va_W, w = List.set w41 17 (iA E (a 17) 11 (upd (upd g38 2 (fn (96 + i0))) 3 (fn (321 + n48)))) := ⟨_, rfl⟩
  refine x_iask C 3 (by decide) (by decide) (by decide) 17 k46 hw52.symm dX12_feelsEgg_42 rfl ?_
  have hW53 : WX (okM E a cd) w51 := by rw [hw52]; exact hW43.set (k := 17) rfl ⟨_, rfl⟩
  have k54 : w51[1]? = some (iA E (a 1) 382 fn) := by rw [hw52]; exact set_ne k44 (by decide)
  have k55 : w51[0]? = some (ob (a 0) 11 [.ref (a 1), .ref (a 2), .ref (a 3), .ref (a 4), .int (nI n2), .int (nI n4), .int (nI n6), .int v8, .int v9, .int v10, .int (nI n11), .int (nI n13), .int (nI n15), .int (nI (cd.2.2.2.2.2)), .ref (a 5), .ref (a 6), .ref (a 7), .ref (a 8), .ref (a 9), .ref (a 10), .ref (a 11), .ref (a 12), .ref (a 13), .ref (a 14), .ref (a 15), .ref (a 16), .ref (a 17), .int (nI n17), .ref (a 18), .ref (a 19), .ref (a 20), .ref (a 21), .int v19, .int v20, .int v21, .int v22, .int (nI n23), .int (nI n25), .ref (a 22), .ref (a 23), .ref (a 24), .ref (a 25), .ref (a 26), .ref (a 27), .ref (a 28), .ref (a 29), .ref (a 30), .int v27]) := by rw [hw52]; exact set_ne k45 (by decide)
  have k56 : w51[17]? = some (iA E (a 17) 11 (upd (upd g38 2 (fn (96 + i0))) 3 (fn (321 + n48)))) := by rw [hw52]; exact set_eq k46
  have kp57 := keeps_set kp47 hw52 (by first | exact rfl | decide | omega | (dsimp only; omega))
  refine x_aload_n C dX12_feelsEgg_43 rfl 0 rfl rfl ?_
  refine x_get C (ci := 11) (k := 26) 0 k55 rfl in_X12 (by decide) w_1144 rfl dX12_feelsEgg_44 rfl ?_
  refine x_iconst C (v := 5) dX12_feelsEgg_47 (by decide) rfl ?_
  refine x_aload_n C dX12_feelsEgg_48 rfl 0 rfl rfl ?_
  refine x_get C (ci := 11) (k := 0) 0 k55 rfl in_X12 (by decide) w_1118 rfl dX12_feelsEgg_49 rfl ?_
  refine x_iconst C (v := 0) dX12_feelsEgg_52 (by decide) rfl ?_
  refine x_iload_n C dX12_feelsEgg_53 rfl 1 rfl rfl ?_
  refine x_iadd C (v := (nI (0 + i0))) dX12_feelsEgg_54 (nI_add 0 i0) rfl ?_
  refine x_ialk C (v := (fn (0 + i0))) (0 + i0) (nI_clamp (by omega)) (nI_pos (by omega)) (by omega) 1 k54 rfl dX12_feelsEgg_55 rfl ?_
  obtain ⟨w58, hw59⟩ : ∃ w : va_W, w = List.set w51 17 (iA E (a 17) 11 (upd (upd (upd g38 2 (fn (96 + i0))) 3 (fn (321 + n48))) 5 (fn (0 + i0)))) := ⟨_, rfl⟩
  refine x_iask C 5 (by decide) (by decide) (by decide) 17 k56 hw59.symm dX12_feelsEgg_56 rfl ?_
  have hW60 : WX (okM E a cd) w58 := by rw [hw59]; exact hW53.set (k := 17) rfl ⟨_, rfl⟩
  have k61 : w58[1]? = some (iA E (a 1) 382 fn) := by rw [hw59]; exact set_ne k54 (by decide)
  have k62 : w58[0]? = some (ob (a 0) 11 [.ref (a 1), .ref (a 2), .ref (a 3), .ref (a 4), .int (nI n2), .int (nI n4), .int (nI n6), .int v8, .int v9, .int v10, .int (nI n11), .int (nI n13), .int (nI n15), .int (nI (cd.2.2.2.2.2)), .ref (a 5), .ref (a 6), .ref (a 7), .ref (a 8), .ref (a 9), .ref (a 10), .ref (a 11), .ref (a 12), .ref (a 13), .ref (a 14), .ref (a 15), .ref (a 16), .ref (a 17), .int (nI n17), .ref (a 18), .ref (a 19), .ref (a 20), .ref (a 21), .int v19, .int v20, .int v21, .int v22, .int (nI n23), .int (nI n25), .ref (a 22), .ref (a 23), .ref (a 24), .ref (a 25), .ref (a 26), .ref (a 27), .ref (a 28), .ref (a 29), .ref (a 30), .int v27]) := by rw [hw59]; exact set_ne k55 (by decide)
  have k63 : w58[17]? = some (iA E (a 17) 11 (upd (upd (upd g38 2 (fn (96 + i0))) 3 (fn (321 + n48))) 5 (fn (0 + i0)))) := by rw [hw59]; exact set_eq k56
  have kp64 := keeps_set kp57 hw59 (by first | exact rfl | decide | omega | (dsimp only; omega))
  refine x_aload_n C dX12_feelsEgg_57 rfl 0 rfl rfl ?_
  refine x_get C (ci := 11) (k := 26) 0 k62 rfl in_X12 (by decide) w_1144 rfl dX12_feelsEgg_58 rfl ?_
  refine x_bipush C (v := 6) dX12_feelsEgg_61 (by decide) rfl ?_
  refine x_aload_n C dX12_feelsEgg_63 rfl 0 rfl rfl ?_
  refine x_get C (ci := 11) (k := 0) 0 k62 rfl in_X12 (by decide) w_1118 rfl dX12_feelsEgg_64 rfl ?_
  refine x_sipush C (v := 379) dX12_feelsEgg_67 (by decide) rfl ?_
  refine x_ialk C (v := (fn 379)) 379 (by decide) (by decide) (by decide) 1 k61 rfl dX12_feelsEgg_70 rfl ?_
  refine x_aload_n C dX12_feelsEgg_71 rfl 0 rfl rfl ?_
  refine x_get C (ci := 11) (k := 0) 0 k62 rfl in_X12 (by decide) w_1118 rfl dX12_feelsEgg_72 rfl ?_
  refine x_bipush C (v := 48) dX12_feelsEgg_75 (by decide) rfl ?_
  refine x_iload_n C dX12_feelsEgg_77 rfl 1 rfl rfl ?_
  refine x_iadd C (v := (nI (48 + i0))) dX12_feelsEgg_78 (nI_add 48 i0) rfl ?_
  refine x_ialk C (v := (fn (48 + i0))) (48 + i0) (nI_clamp (by omega)) (nI_pos (by omega)) (by omega) 1 k61 rfl dX12_feelsEgg_79 rfl ?_
  refine x_isub C (v := ((fn 379) - (fn (48 + i0)))) dX12_feelsEgg_80 rfl rfl ?_
  obtain ⟨w65, hw66⟩ : ∃ w : va_W, w = List.set w58 17 (iA E (a 17) 11 (upd (upd (upd (upd g38 2 (fn (96 + i0))) 3 (fn (321 + n48))) 5 (fn (0 + i0))) 6 ((fn 379) - (fn (48 + i0))))) := ⟨_, rfl⟩
  refine x_iask C 6 (by decide) (by decide) (by decide) 17 k63 hw66.symm dX12_feelsEgg_81 rfl ?_
  have hW67 : WX (okM E a cd) w65 := by rw [hw66]; exact hW60.set (k := 17) rfl ⟨_, rfl⟩
  have k68 : w65[1]? = some (iA E (a 1) 382 fn) := by rw [hw66]; exact set_ne k61 (by decide)
  have k69 : w65[0]? = some (ob (a 0) 11 [.ref (a 1), .ref (a 2), .ref (a 3), .ref (a 4), .int (nI n2), .int (nI n4), .int (nI n6), .int v8, .int v9, .int v10, .int (nI n11), .int (nI n13), .int (nI n15), .int (nI (cd.2.2.2.2.2)), .ref (a 5), .ref (a 6), .ref (a 7), .ref (a 8), .ref (a 9), .ref (a 10), .ref (a 11), .ref (a 12), .ref (a 13), .ref (a 14), .ref (a 15), .ref (a 16), .ref (a 17), .int (nI n17), .ref (a 18), .ref (a 19), .ref (a 20), .ref (a 21), .int v19, .int v20, .int v21, .int v22, .int (nI n23), .int (nI n25), .ref (a 22), .ref (a 23), .ref (a 24), .ref (a 25), .ref (a 26), .ref (a 27), .ref (a 28), .ref (a 29), .ref (a 30), .int v27]) := by rw [hw66]; exact set_ne k62 (by decide)
  have k70 : w65[17]? = some (iA E (a 17) 11 (upd (upd (upd (upd g38 2 (fn (96 + i0))) 3 (fn (321 + n48))) 5 (fn (0 + i0))) 6 ((fn 379) - (fn (48 + i0))))) := by rw [hw66]; exact set_eq k63
  have kp71 := keeps_set kp64 hw66 (by first | exact rfl | decide | omega | (dsimp only; omega))
  refine x_aload_n C dX12_feelsEgg_82 rfl 0 rfl rfl ?_
  refine x_get C (ci := 11) (k := 26) 0 k69 rfl in_X12 (by decide) w_1144 rfl dX12_feelsEgg_83 rfl ?_
  refine x_bipush C (v := 7) dX12_feelsEgg_86 (by decide) rfl ?_
  refine x_aload_n C dX12_feelsEgg_88 rfl 0 rfl rfl ?_
  refine x_get C (ci := 11) (k := 0) 0 k69 rfl in_X12 (by decide) w_1118 rfl dX12_feelsEgg_89 rfl ?_
  refine x_sipush C (v := 192) dX12_feelsEgg_92 (by decide) rfl ?_
  refine x_iload_n C dX12_feelsEgg_95 rfl 1 rfl rfl ?_
  refine x_iadd C (v := (nI (192 + i0))) dX12_feelsEgg_96 (nI_add 192 i0) rfl ?_
  refine x_ialk C (v := (fn (192 + i0))) (192 + i0) (nI_clamp (by omega)) (nI_pos (by omega)) (by omega) 1 k68 rfl dX12_feelsEgg_97 rfl ?_
  obtain ⟨w72, hw73⟩ : ∃ w : va_W, w = List.set w65 17 (iA E (a 17) 11 (upd (upd (upd (upd (upd g38 2 (fn (96 + i0))) 3 (fn (321 + n48))) 5 (fn (0 + i0))) 6 ((fn 379) - (fn (48 + i0)))) 7 (fn (192 + i0)))) := ⟨_, rfl⟩
  refine x_iask C 7 (by decide) (by decide) (by decide) 17 k70 hw73.symm dX12_feelsEgg_98 rfl ?_
  have hW74 : WX (okM E a cd) w72 := by rw [hw73]; exact hW67.set (k := 17) rfl ⟨_, rfl⟩
  have k75 : w72[1]? = some (iA E (a 1) 382 fn) := by rw [hw73]; exact set_ne k68 (by decide)
  have k76 : w72[0]? = some (ob (a 0) 11 [.ref (a 1), .ref (a 2), .ref (a 3), .ref (a 4), .int (nI n2), .int (nI n4), .int (nI n6), .int v8, .int v9, .int v10, .int (nI n11), .int (nI n13), .int (nI n15), .int (nI (cd.2.2.2.2.2)), .ref (a 5), .ref (a 6), .ref (a 7), .ref (a 8), .ref (a 9), .ref (a 10), .ref (a 11), .ref (a 12), .ref (a 13), .ref (a 14), .ref (a 15), .ref (a 16), .ref (a 17), .int (nI n17), .ref (a 18), .ref (a 19), .ref (a 20), .ref (a 21), .int v19, .int v20, .int v21, .int v22, .int (nI n23), .int (nI n25), .ref (a 22), .ref (a 23), .ref (a 24), .ref (a 25), .ref (a 26), .ref (a 27), .ref (a 28), .ref (a 29), .ref (a 30), .int v27]) := by rw [hw73]; exact set_ne k69 (by decide)
  have k77 : w72[17]? = some (iA E (a 17) 11 (upd (upd (upd (upd (upd g38 2 (fn (96 + i0))) 3 (fn (321 + n48))) 5 (fn (0 + i0))) 6 ((fn 379) - (fn (48 + i0)))) 7 (fn (192 + i0)))) := by rw [hw73]; exact set_eq k70
  have kp78 := keeps_set kp71 hw73 (by first | exact rfl | decide | omega | (dsimp only; omega))
  refine x_aload_n C dX12_feelsEgg_99 rfl 0 rfl rfl ?_
  refine x_get C (ci := 11) (k := 26) 0 k76 rfl in_X12 (by decide) w_1144 rfl dX12_feelsEgg_100 rfl ?_
  refine x_bipush C (v := 8) dX12_feelsEgg_103 (by decide) rfl ?_
  refine x_aload_n C dX12_feelsEgg_105 rfl 0 rfl rfl ?_
  refine x_get C (ci := 11) (k := 0) 0 k76 rfl in_X12 (by decide) w_1118 rfl dX12_feelsEgg_106 rfl ?_
  refine x_sipush C (v := 144) dX12_feelsEgg_109 (by decide) rfl ?_
  refine x_iload_n C dX12_feelsEgg_112 rfl 1 rfl rfl ?_
  refine x_iadd C (v := (nI (144 + i0))) dX12_feelsEgg_113 (nI_add 144 i0) rfl ?_
  refine x_ialk C (v := (fn (144 + i0))) (144 + i0) (nI_clamp (by omega)) (nI_pos (by omega)) (by omega) 1 k75 rfl dX12_feelsEgg_114 rfl ?_
  obtain ⟨w79, hw80⟩ : ∃ w : va_W, w = List.set w72 17 (iA E (a 17) 11 (upd (upd (upd (upd (upd (upd g38 2 (fn (96 + i0))) 3 (fn (321 + n48))) 5 (fn (0 + i0))) 6 ((fn 379) - (fn (48 + i0)))) 7 (fn (192 + i0))) 8 (fn (144 + i0)))) := ⟨_, rfl⟩
  refine x_iask C 8 (by decide) (by decide) (by decide) 17 k77 hw80.symm dX12_feelsEgg_115 rfl ?_
  have hW81 : WX (okM E a cd) w79 := by rw [hw80]; exact hW74.set (k := 17) rfl ⟨_, rfl⟩
  have k82 : w79[1]? = some (iA E (a 1) 382 fn) := by rw [hw80]; exact set_ne k75 (by decide)
  have k83 : w79[0]? = some (ob (a 0) 11 [.ref (a 1), .ref (a 2), .ref (a 3), .ref (a 4), .int (nI n2), .int (nI n4), .int (nI n6), .int v8, .int v9, .int v10, .int (nI n11), .int (nI n13), .int (nI n15), .int (nI (cd.2.2.2.2.2)), .ref (a 5), .ref (a 6), .ref (a 7), .ref (a 8), .ref (a 9), .ref (a 10), .ref (a 11), .ref (a 12), .ref (a 13), .ref (a 14), .ref (a 15), .ref (a 16), .ref (a 17), .int (nI n17), .ref (a 18), .ref (a 19), .ref (a 20), .ref (a 21), .int v19, .int v20, .int v21, .int v22, .int (nI n23), .int (nI n25), .ref (a 22), .ref (a 23), .ref (a 24), .ref (a 25), .ref (a 26), .ref (a 27), .ref (a 28), .ref (a 29), .ref (a 30), .int v27]) := by rw [hw80]; exact set_ne k76 (by decide)
  have k84 : w79[17]? = some (iA E (a 17) 11 (upd (upd (upd (upd (upd (upd g38 2 (fn (96 + i0))) 3 (fn (321 + n48))) 5 (fn (0 + i0))) 6 ((fn 379) - (fn (48 + i0)))) 7 (fn (192 + i0))) 8 (fn (144 + i0)))) := by rw [hw80]; exact set_eq k77
  have kp85 := keeps_set kp78 hw80 (by first | exact rfl | decide | omega | (dsimp only; omega))
  exact x_vret C hr hlk dX12_feelsEgg_116 ⟨hW81, kp85, (by rw [flE, show (fn (96 + i0)).toNatClampNeg = n48 from by rw [en50]; exact nI_clamp (by omega)]; exact ⟨_, k84, clip_upd (clip_upd (clip_upd (clip_upd (clip_upd (clip_upd (ecl40))))))⟩)⟩
theorem dX12_badBehind_0 : decode cX12_badBehind 0 = .ok (.aload_n 0, 1) := by decide +kernel
theorem dX12_badBehind_1 : decode cX12_badBehind 1 = .ok (.iload_n 1, 1) := by decide +kernel
theorem dX12_badBehind_2 : decode cX12_badBehind 2 = .ok (.invokevirtual 237, 3) := by decide +kernel
theorem dX12_badBehind_5 : decode cX12_badBehind 5 = .ok (.aload_n 0, 1) := by decide +kernel
theorem dX12_badBehind_6 : decode cX12_badBehind 6 = .ok (.bipush 98, 2) := by decide +kernel
theorem dX12_badBehind_8 : decode cX12_badBehind 8 = .ok (.bipush 99, 2) := by decide +kernel
theorem dX12_badBehind_10 : decode cX12_badBehind 10 = .ok (.invokevirtual 240, 3) := by decide +kernel
theorem dX12_badBehind_13 : decode cX12_badBehind 13 = .ok (.ireturn, 1) := by decide +kernel
set_option maxRecDepth 20000 in
set_option maxHeartbeats 4000000 in
theorem m_badBehind (E : xE) (l : Launch) (a : Nat → Nat) (cd : Cd) (hG : Good cd) (ws : va_W) (hW : WX (okM E a cd) ws) (i0 : Nat) (hi0 : i0 ≤ 47) : xI E l yX12_badBehind cX12_badBehind 2 (some .int) 3 [.ref (a 0), .int (nI i0)] ws (fun r w => WX (okM E a cd) w ∧ keeps ws w (fun q => q = 16 ∨ q = 17) ∧ (∃ rn : Nat, rn ≤ 99 ∧ r = nI rn)) := by
  refine xI_start (lv := [(0, .ref (a 0)), (1, .int (nI i0))]) RX12 (by decide) rfl (Nat.le_of_ble_eq_true rfl) rfl (fun p e s m below meth c A C hr hlk => ?_)
  have kp0 : keeps ws ws (fun q => q = 16 ∨ q = 17) := keeps_rf
  obtain ⟨_, k1, f2, pf3, rfl⟩ := hW 1 _ rfl
  refine x_aload_n C dX12_badBehind_0 rfl 0 rfl rfl ?_
  refine x_iload_n C dX12_badBehind_1 rfl 1 rfl rfl ?_
  obtain ⟨_, k4, n5, n7, n9, v11, v12, v13, n14, n16, n18, n20, v22, v23, v24, v25, n26, n28, v30, bn6, bn8, bn10, bn15, bn17, bn19, bn21, bn27, bn29, zv31, rfl⟩ := hW 0 _ rfl
  refine x_vv C (As := [.int (nI i0)]) (rest := []) (m_feelsEgg E l a cd hG ws hW i0 (by omega) f2 k1) mf_X12_feelsEgg w_1455 0 k4 rfl rfl rfl (Nat.le_of_ble_eq_true rfl) ⟨(Nat.le_of_ble_eq_true rfl), (Nat.le_of_ble_eq_true rfl)⟩ ⟨(Nat.le_of_ble_eq_true rfl), (Nat.le_of_ble_eq_true rfl)⟩ dX12_badBehind_2 rfl (fun w34 h32 => ?_)
  obtain ⟨hW35, kq36, x37⟩ := h32
  have k38 : w34[1]? = some (iA E (a 1) 382 f2) := keeps_at kq36 k1 (by first | decide | omega | (dsimp only; omega))
  have k39 : w34[0]? = some (ob (a 0) 11 [.ref (a 1), .ref (a 2), .ref (a 3), .ref (a 4), .int (nI n5), .int (nI n7), .int (nI n9), .int v11, .int v12, .int v13, .int (nI n14), .int (nI n16), .int (nI n18), .int (nI (cd.2.2.2.2.2)), .ref (a 5), .ref (a 6), .ref (a 7), .ref (a 8), .ref (a 9), .ref (a 10), .ref (a 11), .ref (a 12), .ref (a 13), .ref (a 14), .ref (a 15), .ref (a 16), .ref (a 17), .int (nI n20), .ref (a 18), .ref (a 19), .ref (a 20), .ref (a 21), .int v22, .int v23, .int v24, .int v25, .int (nI n26), .int (nI n28), .ref (a 22), .ref (a 23), .ref (a 24), .ref (a 25), .ref (a 26), .ref (a 27), .ref (a 28), .ref (a 29), .ref (a 30), .int v30]) := keeps_at kq36 k4 (by first | decide | omega | (dsimp only; omega))
  have kp40 := keeps_tr kp0 kq36 (fun q hq => by first | omega | (dsimp only at *; omega))
  obtain ⟨g41, k42, ecl43⟩ := x37
  refine x_aload_n C dX12_badBehind_5 rfl 0 rfl rfl ?_
  refine x_bipush C (v := 98) dX12_badBehind_6 (by decide) rfl ?_
  refine x_bipush C (v := 99) dX12_badBehind_8 (by decide) rfl ?_
  refine x_vi C (As := [.int 98, .int 99]) (rest := []) (m_byLaw E l a cd hG w34 hW35 (98 : Int32) 99 (by omega) g41 k42) mf_X12_byLaw w_1463 0 k39 rfl rfl rfl (Nat.le_of_ble_eq_true rfl) ⟨(Nat.le_of_ble_eq_true rfl), (Nat.le_of_ble_eq_true rfl)⟩ ⟨(Nat.le_of_ble_eq_true rfl), (Nat.le_of_ble_eq_true rfl)⟩ dX12_badBehind_10 rfl (fun r45 w46 h44 => ?_)
  obtain ⟨hW47, kq48, ⟨m50, bm51, e49⟩, x52⟩ := h44
  refine x_top e49 ?_
  have k53 : w46[1]? = some (iA E (a 1) 382 f2) := keeps_at kq48 k38 (by first | decide | omega | (dsimp only; omega))
  have k54 : w46[0]? = some (ob (a 0) 11 [.ref (a 1), .ref (a 2), .ref (a 3), .ref (a 4), .int (nI n5), .int (nI n7), .int (nI n9), .int v11, .int v12, .int v13, .int (nI n14), .int (nI n16), .int (nI n18), .int (nI (cd.2.2.2.2.2)), .ref (a 5), .ref (a 6), .ref (a 7), .ref (a 8), .ref (a 9), .ref (a 10), .ref (a 11), .ref (a 12), .ref (a 13), .ref (a 14), .ref (a 15), .ref (a 16), .ref (a 17), .int (nI n20), .ref (a 18), .ref (a 19), .ref (a 20), .ref (a 21), .int v22, .int v23, .int v24, .int v25, .int (nI n26), .int (nI n28), .ref (a 22), .ref (a 23), .ref (a 24), .ref (a 25), .ref (a 26), .ref (a 27), .ref (a 28), .ref (a 29), .ref (a 30), .int v30]) := keeps_at kq48 k39 (by first | decide | omega | (dsimp only; omega))
  have k55 : w46[17]? = some (iA E (a 17) 11 g41) := keeps_at kq48 k42 (by first | decide | omega | (dsimp only; omega))
  have kp56 := keeps_tr kp40 kq48 (fun q hq => by first | omega | (dsimp only at *; omega))
  exact x_zret C hr hlk rfl dX12_badBehind_13 ⟨hW47, kp56, ⟨m50, by omega, rfl⟩⟩
theorem dX12_badOn_0 : decode cX12_badOn 0 = .ok (.aload_n 0, 1) := by decide +kernel
theorem dX12_badOn_1 : decode cX12_badOn 1 = .ok (.iload_n 1, 1) := by decide +kernel
theorem dX12_badOn_2 : decode cX12_badOn 2 = .ok (.invokevirtual 243, 3) := by decide +kernel
theorem dX12_badOn_5 : decode cX12_badOn 5 = .ok (.istore_n 2, 1) := by decide +kernel
theorem dX12_badOn_6 : decode cX12_badOn 6 = .ok (.iload_n 2, 1) := by decide +kernel
theorem dX12_badOn_7 : decode cX12_badOn 7 = .ok (.ifCond .ne 8, 3) := by decide +kernel
theorem dX12_badOn_10 : decode cX12_badOn 10 = .ok (.ldc 246, 2) := by decide +kernel
theorem dX12_badOn_12 : decode cX12_badOn 12 = .ok (.goto 14, 3) := by decide +kernel
theorem dX12_badOn_15 : decode cX12_badOn 15 = .ok (.aload_n 0, 1) := by decide +kernel
theorem dX12_badOn_16 : decode cX12_badOn 16 = .ok (.getfield 7, 3) := by decide +kernel
theorem dX12_badOn_19 : decode cX12_badOn 19 = .ok (.bipush 48, 2) := by decide +kernel
theorem dX12_badOn_21 : decode cX12_badOn 21 = .ok (.iload_n 1, 1) := by decide +kernel
theorem dX12_badOn_22 : decode cX12_badOn 22 = .ok (.iadd, 1) := by decide +kernel
theorem dX12_badOn_23 : decode cX12_badOn 23 = .ok (.iaload, 1) := by decide +kernel
theorem dX12_badOn_24 : decode cX12_badOn 24 = .ok (.iload_n 2, 1) := by decide +kernel
theorem dX12_badOn_25 : decode cX12_badOn 25 = .ok (.iadd, 1) := by decide +kernel
theorem dX12_badOn_26 : decode cX12_badOn 26 = .ok (.ireturn, 1) := by decide +kernel
set_option maxRecDepth 20000 in
set_option maxHeartbeats 4000000 in
theorem m_badOn (E : xE) (l : Launch) (a : Nat → Nat) (cd : Cd) (hG : Good cd) (ws : va_W) (hW : WX (okM E a cd) ws) (i0 : Nat) (hi0 : i0 ≤ 47) : xI E l yX12_badOn cX12_badOn 3 (some .int) 4 [.ref (a 0), .int (nI i0)] ws (fun r w => WX (okM E a cd) w ∧ keeps ws w (fun q => q = 16 ∨ q = 17) ∧ (r = 1000000000 ∨ ∃ n : Nat, n ≤ 12000 ∧ r = nI n)) := by
  refine xI_start (lv := [(0, .ref (a 0)), (1, .int (nI i0))]) RX12 (by decide) rfl (Nat.le_of_ble_eq_true rfl) rfl (fun p e s m below meth c A C hr hlk => ?_)
  have kp0 : keeps ws ws (fun q => q = 16 ∨ q = 17) := keeps_rf
  refine x_aload_n C dX12_badOn_0 rfl 0 rfl rfl ?_
  refine x_iload_n C dX12_badOn_1 rfl 1 rfl rfl ?_
  obtain ⟨_, k1, n2, n4, n6, v8, v9, v10, n11, n13, n15, n17, v19, v20, v21, v22, n23, n25, v27, bn3, bn5, bn7, bn12, bn14, bn16, bn18, bn24, bn26, zv28, rfl⟩ := hW 0 _ rfl
  refine x_vi C (As := [.int (nI i0)]) (rest := []) (m_badBehind E l a cd hG ws hW i0 (by omega)) mf_X12_badBehind w_1518 0 k1 rfl rfl rfl (Nat.le_of_ble_eq_true rfl) ⟨(Nat.le_of_ble_eq_true rfl), (Nat.le_of_ble_eq_true rfl)⟩ ⟨(Nat.le_of_ble_eq_true rfl), (Nat.le_of_ble_eq_true rfl)⟩ dX12_badOn_2 rfl (fun r30 w31 h29 => ?_)
  obtain ⟨hW32, kq33, ⟨m35, bm36, e34⟩⟩ := h29
  refine x_top e34 ?_
  have k37 : w31[0]? = some (ob (a 0) 11 [.ref (a 1), .ref (a 2), .ref (a 3), .ref (a 4), .int (nI n2), .int (nI n4), .int (nI n6), .int v8, .int v9, .int v10, .int (nI n11), .int (nI n13), .int (nI n15), .int (nI (cd.2.2.2.2.2)), .ref (a 5), .ref (a 6), .ref (a 7), .ref (a 8), .ref (a 9), .ref (a 10), .ref (a 11), .ref (a 12), .ref (a 13), .ref (a 14), .ref (a 15), .ref (a 16), .ref (a 17), .int (nI n17), .ref (a 18), .ref (a 19), .ref (a 20), .ref (a 21), .int v19, .int v20, .int v21, .int v22, .int (nI n23), .int (nI n25), .ref (a 22), .ref (a 23), .ref (a 24), .ref (a 25), .ref (a 26), .ref (a 27), .ref (a 28), .ref (a 29), .ref (a 30), .int v27]) := keeps_at kq33 k1 (by first | decide | omega | (dsimp only; omega))
  have kp38 := keeps_tr kp0 kq33 (fun q hq => by first | omega | (dsimp only at *; omega))
  refine x_istore_n C (lv' := [(2, .int (nI m35)), (0, .ref (a 0)), (1, .int (nI i0))]) dX12_badOn_5 rfl (by decide) rfl rfl ?_
  refine x_iload_n C dX12_badOn_6 rfl 0 rfl rfl ?_
  refine x_if_ne C (tgt := 15) dX12_badOn_7 (by decide) rfl (fun c39 => ?_) (fun c39 => ?_)
  · skip
    have nf40 : ¬ m35 = 0 := fun q => c39 (congrArg nI q)
    refine x_aload_n C dX12_badOn_15 rfl 1 rfl rfl ?_
    refine x_get C (ci := 11) (k := 0) 0 k37 rfl in_X12 (by decide) w_1118 rfl dX12_badOn_16 rfl ?_
    refine x_bipush C (v := 48) dX12_badOn_19 (by decide) rfl ?_
    refine x_iload_n C dX12_badOn_21 rfl 2 rfl rfl ?_
    refine x_iadd C (v := (nI (48 + i0))) dX12_badOn_22 (nI_add 48 i0) rfl ?_
    obtain ⟨_, k41, f42, pf43, rfl⟩ := hW32 1 _ rfl
    obtain ⟨n44, hn45, en46⟩ := NB_lo (j := i0) pf43 (by omega)
    refine x_ialk C (v := nI n44) (48 + i0) (nI_clamp (by omega)) (nI_pos (by omega)) (by omega) 1 k41 en46 dX12_badOn_23 rfl ?_
    refine x_iload_n C dX12_badOn_24 rfl 0 rfl rfl ?_
    refine x_iadd C (v := (nI (n44 + m35))) dX12_badOn_25 (nI_add n44 m35) rfl ?_
    exact x_zret C hr hlk rfl dX12_badOn_26 ⟨hW32, kp38, (Or.inr ⟨_, by omega, rfl⟩)⟩
  · skip
    have nf47 : m35 = 0 := (nI_eq (by omega) (by omega)).mp c39
    refine x_ldc C w_1538 dX12_badOn_10 rfl ?_
    refine x_goto C (tgt := 26) dX12_badOn_12 (by decide) ?_
    exact x_zret C hr hlk rfl dX12_badOn_26 ⟨hW32, kp38, (Or.inl rfl)⟩
theorem dX12_worthFor_0 : decode cX12_worthFor 0 = .ok (.aload_n 0, 1) := by decide +kernel
theorem dX12_worthFor_1 : decode cX12_worthFor 1 = .ok (.iload_n 1, 1) := by decide +kernel
theorem dX12_worthFor_2 : decode cX12_worthFor 2 = .ok (.invokevirtual 237, 3) := by decide +kernel
theorem dX12_worthFor_5 : decode cX12_worthFor 5 = .ok (.aload_n 0, 1) := by decide +kernel
theorem dX12_worthFor_6 : decode cX12_worthFor 6 = .ok (.getfield 59, 3) := by decide +kernel
theorem dX12_worthFor_9 : decode cX12_worthFor 9 = .ok (.bipush 9, 2) := by decide +kernel
theorem dX12_worthFor_11 : decode cX12_worthFor 11 = .ok (.iload_n 2, 1) := by decide +kernel
theorem dX12_worthFor_12 : decode cX12_worthFor 12 = .ok (.iastore, 1) := by decide +kernel
theorem dX12_worthFor_13 : decode cX12_worthFor 13 = .ok (.aload_n 0, 1) := by decide +kernel
theorem dX12_worthFor_14 : decode cX12_worthFor 14 = .ok (.bipush 116, 2) := by decide +kernel
theorem dX12_worthFor_16 : decode cX12_worthFor 16 = .ok (.sipush 240, 3) := by decide +kernel
theorem dX12_worthFor_19 : decode cX12_worthFor 19 = .ok (.invokevirtual 240, 3) := by decide +kernel
theorem dX12_worthFor_22 : decode cX12_worthFor 22 = .ok (.ireturn, 1) := by decide +kernel
set_option maxRecDepth 20000 in
set_option maxHeartbeats 4000000 in
theorem m_worthFor (E : xE) (l : Launch) (a : Nat → Nat) (cd : Cd) (hG : Good cd) (ws : va_W) (hW : WX (okM E a cd) ws) (i0 : Nat) (wk : Int32) (hi0 : i0 ≤ 47) (fn : Nat → Int32) (hfn : ws[1]? = some (iA E (a 1) 382 fn)) : xI E l yX12_worthFor cX12_worthFor 3 (some .int) 3 [.ref (a 0), .int (nI i0), .int wk] ws (fun r w => WX (okM E a cd) w ∧ keeps ws w (fun q => q = 16 ∨ q = 17) ∧ (∃ rn : Nat, rn ≤ 240 ∧ r = nI rn) ∧ (r = wFor cd fn i0 wk)) := by
  refine xI_start (lv := [(0, .ref (a 0)), (1, .int (nI i0)), (2, .int wk)]) RX12 (by decide) rfl (Nat.le_of_ble_eq_true rfl) rfl (fun p e s m below meth c A C hr hlk => ?_)
  have kp0 : keeps ws ws (fun q => q = 16 ∨ q = 17) := keeps_rf
  obtain ⟨_, kq1, fq, pfq, rfl⟩ := hW 1 _ rfl
  obtain rfl := iA_inj (hfn.symm.trans kq1)
  refine x_aload_n C dX12_worthFor_0 rfl 0 rfl rfl ?_
  refine x_iload_n C dX12_worthFor_1 rfl 1 rfl rfl ?_
  obtain ⟨_, k1, n2, n4, n6, v8, v9, v10, n11, n13, n15, n17, v19, v20, v21, v22, n23, n25, v27, bn3, bn5, bn7, bn12, bn14, bn16, bn18, bn24, bn26, zv28, rfl⟩ := hW 0 _ rfl
  refine x_vv C (As := [.int (nI i0)]) (rest := []) (m_feelsEgg E l a cd hG ws hW i0 (by omega) fn hfn) mf_X12_feelsEgg w_1455 0 k1 rfl rfl rfl (Nat.le_of_ble_eq_true rfl) ⟨(Nat.le_of_ble_eq_true rfl), (Nat.le_of_ble_eq_true rfl)⟩ ⟨(Nat.le_of_ble_eq_true rfl), (Nat.le_of_ble_eq_true rfl)⟩ dX12_worthFor_2 rfl (fun w31 h29 => ?_)
  obtain ⟨hW32, kq33, x34⟩ := h29
  have k35 : w31[1]? = some (iA E (a 1) 382 fn) := keeps_at kq33 hfn (by first | decide | omega | (dsimp only; omega))
  have k36 : w31[0]? = some (ob (a 0) 11 [.ref (a 1), .ref (a 2), .ref (a 3), .ref (a 4), .int (nI n2), .int (nI n4), .int (nI n6), .int v8, .int v9, .int v10, .int (nI n11), .int (nI n13), .int (nI n15), .int (nI (cd.2.2.2.2.2)), .ref (a 5), .ref (a 6), .ref (a 7), .ref (a 8), .ref (a 9), .ref (a 10), .ref (a 11), .ref (a 12), .ref (a 13), .ref (a 14), .ref (a 15), .ref (a 16), .ref (a 17), .int (nI n17), .ref (a 18), .ref (a 19), .ref (a 20), .ref (a 21), .int v19, .int v20, .int v21, .int v22, .int (nI n23), .int (nI n25), .ref (a 22), .ref (a 23), .ref (a 24), .ref (a 25), .ref (a 26), .ref (a 27), .ref (a 28), .ref (a 29), .ref (a 30), .int v27]) := keeps_at kq33 k1 (by first | decide | omega | (dsimp only; omega))
  have kp37 := keeps_tr kp0 kq33 (fun q hq => by first | omega | (dsimp only at *; omega))
  obtain ⟨g38, k39, ecl40⟩ := x34
  refine x_aload_n C dX12_worthFor_5 rfl 0 rfl rfl ?_
  refine x_get C (ci := 11) (k := 26) 0 k36 rfl in_X12 (by decide) w_1144 rfl dX12_worthFor_6 rfl ?_
  refine x_bipush C (v := 9) dX12_worthFor_9 (by decide) rfl ?_
  refine x_iload_n C dX12_worthFor_11 rfl 2 rfl rfl ?_
  obtain ⟨w41, hw42⟩ : ∃ w : va_W, w = List.set w31 17 (iA E (a 17) 11 (upd g38 9 wk)) := ⟨_, rfl⟩
  refine x_iask C 9 (by decide) (by decide) (by decide) 17 k39 hw42.symm dX12_worthFor_12 rfl ?_
  have hW43 : WX (okM E a cd) w41 := by rw [hw42]; exact hW32.set (k := 17) rfl ⟨_, rfl⟩
  have k44 : w41[1]? = some (iA E (a 1) 382 fn) := by rw [hw42]; exact set_ne k35 (by decide)
  have k45 : w41[0]? = some (ob (a 0) 11 [.ref (a 1), .ref (a 2), .ref (a 3), .ref (a 4), .int (nI n2), .int (nI n4), .int (nI n6), .int v8, .int v9, .int v10, .int (nI n11), .int (nI n13), .int (nI n15), .int (nI (cd.2.2.2.2.2)), .ref (a 5), .ref (a 6), .ref (a 7), .ref (a 8), .ref (a 9), .ref (a 10), .ref (a 11), .ref (a 12), .ref (a 13), .ref (a 14), .ref (a 15), .ref (a 16), .ref (a 17), .int (nI n17), .ref (a 18), .ref (a 19), .ref (a 20), .ref (a 21), .int v19, .int v20, .int v21, .int v22, .int (nI n23), .int (nI n25), .ref (a 22), .ref (a 23), .ref (a 24), .ref (a 25), .ref (a 26), .ref (a 27), .ref (a 28), .ref (a 29), .ref (a 30), .int v27]) := by rw [hw42]; exact set_ne k36 (by decide)
  have k46 : w41[17]? = some (iA E (a 17) 11 (upd g38 9 wk)) := by rw [hw42]; exact set_eq k39
  have kp47 := keeps_set kp37 hw42 (by first | exact rfl | decide | omega | (dsimp only; omega))
  refine x_aload_n C dX12_worthFor_13 rfl 0 rfl rfl ?_
  refine x_bipush C (v := 116) dX12_worthFor_14 (by decide) rfl ?_
  refine x_sipush C (v := 240) dX12_worthFor_16 (by decide) rfl ?_
  refine x_vi C (As := [.int 116, .int 240]) (rest := []) (m_byLaw E l a cd hG w41 hW43 (116 : Int32) 240 (by omega) ((upd g38 9 wk)) k46) mf_X12_byLaw w_1463 0 k45 rfl rfl rfl (Nat.le_of_ble_eq_true rfl) ⟨(Nat.le_of_ble_eq_true rfl), (Nat.le_of_ble_eq_true rfl)⟩ ⟨(Nat.le_of_ble_eq_true rfl), (Nat.le_of_ble_eq_true rfl)⟩ dX12_worthFor_19 rfl (fun r49 w50 h48 => ?_)
  obtain ⟨hW51, kq52, ⟨m54, bm55, e53⟩, x56⟩ := h48
  refine x_top e53 ?_
  have k57 : w50[1]? = some (iA E (a 1) 382 fn) := keeps_at kq52 k44 (by first | decide | omega | (dsimp only; omega))
  have k58 : w50[0]? = some (ob (a 0) 11 [.ref (a 1), .ref (a 2), .ref (a 3), .ref (a 4), .int (nI n2), .int (nI n4), .int (nI n6), .int v8, .int v9, .int v10, .int (nI n11), .int (nI n13), .int (nI n15), .int (nI (cd.2.2.2.2.2)), .ref (a 5), .ref (a 6), .ref (a 7), .ref (a 8), .ref (a 9), .ref (a 10), .ref (a 11), .ref (a 12), .ref (a 13), .ref (a 14), .ref (a 15), .ref (a 16), .ref (a 17), .int (nI n17), .ref (a 18), .ref (a 19), .ref (a 20), .ref (a 21), .int v19, .int v20, .int v21, .int v22, .int (nI n23), .int (nI n25), .ref (a 22), .ref (a 23), .ref (a 24), .ref (a 25), .ref (a 26), .ref (a 27), .ref (a 28), .ref (a 29), .ref (a 30), .int v27]) := keeps_at kq52 k45 (by first | decide | omega | (dsimp only; omega))
  have k59 : w50[17]? = some (iA E (a 17) 11 (upd g38 9 wk)) := keeps_at kq52 k46 (by first | decide | omega | (dsimp only; omega))
  have kp60 := keeps_tr kp47 kq52 (fun q hq => by first | omega | (dsimp only at *; omega))
  exact x_zret C hr hlk rfl dX12_worthFor_22 ⟨hW51, kp60, ⟨m54, by omega, rfl⟩, (by rw [wFor]; refine (e53.symm.trans x56).trans ?_; rw [show clip (upd g38 9 wk) = clip (upd (flE fn i0) 9 wk) from clip_upd ecl40])⟩
theorem dX12_gives_0 : decode cX12_gives 0 = .ok (.aload_n 0, 1) := by decide +kernel
theorem dX12_gives_1 : decode cX12_gives 1 = .ok (.getfield 7, 3) := by decide +kernel
theorem dX12_gives_4 : decode cX12_gives 4 = .ok (.sipush 144, 3) := by decide +kernel
theorem dX12_gives_7 : decode cX12_gives 7 = .ok (.iload_n 1, 1) := by decide +kernel
theorem dX12_gives_8 : decode cX12_gives 8 = .ok (.iadd, 1) := by decide +kernel
theorem dX12_gives_9 : decode cX12_gives 9 = .ok (.iaload, 1) := by decide +kernel
theorem dX12_gives_10 : decode cX12_gives 10 = .ok (.istore_n 3, 1) := by decide +kernel
theorem dX12_gives_11 : decode cX12_gives 11 = .ok (.aload_n 0, 1) := by decide +kernel
theorem dX12_gives_12 : decode cX12_gives 12 = .ok (.getfield 7, 3) := by decide +kernel
theorem dX12_gives_15 : decode cX12_gives 15 = .ok (.sipush 312, 3) := by decide +kernel
theorem dX12_gives_18 : decode cX12_gives 18 = .ok (.iload_n 3, 1) := by decide +kernel
theorem dX12_gives_19 : decode cX12_gives 19 = .ok (.iadd, 1) := by decide +kernel
theorem dX12_gives_20 : decode cX12_gives 20 = .ok (.aload_n 0, 1) := by decide +kernel
theorem dX12_gives_21 : decode cX12_gives 21 = .ok (.getfield 7, 3) := by decide +kernel
theorem dX12_gives_24 : decode cX12_gives 24 = .ok (.sipush 312, 3) := by decide +kernel
theorem dX12_gives_27 : decode cX12_gives 27 = .ok (.iload_n 3, 1) := by decide +kernel
theorem dX12_gives_28 : decode cX12_gives 28 = .ok (.iadd, 1) := by decide +kernel
theorem dX12_gives_29 : decode cX12_gives 29 = .ok (.iaload, 1) := by decide +kernel
theorem dX12_gives_30 : decode cX12_gives 30 = .ok (.aload_n 0, 1) := by decide +kernel
theorem dX12_gives_31 : decode cX12_gives 31 = .ok (.getfield 7, 3) := by decide +kernel
theorem dX12_gives_34 : decode cX12_gives 34 = .ok (.iconst 0, 1) := by decide +kernel
theorem dX12_gives_35 : decode cX12_gives 35 = .ok (.iload_n 1, 1) := by decide +kernel
theorem dX12_gives_36 : decode cX12_gives 36 = .ok (.iadd, 1) := by decide +kernel
theorem dX12_gives_37 : decode cX12_gives 37 = .ok (.iaload, 1) := by decide +kernel
theorem dX12_gives_38 : decode cX12_gives 38 = .ok (.iadd, 1) := by decide +kernel
theorem dX12_gives_39 : decode cX12_gives 39 = .ok (.iastore, 1) := by decide +kernel
theorem dX12_gives_40 : decode cX12_gives 40 = .ok (.aload_n 0, 1) := by decide +kernel
theorem dX12_gives_41 : decode cX12_gives 41 = .ok (.getfield 7, 3) := by decide +kernel
theorem dX12_gives_44 : decode cX12_gives 44 = .ok (.sipush 304, 3) := by decide +kernel
theorem dX12_gives_47 : decode cX12_gives 47 = .ok (.iload_n 2, 1) := by decide +kernel
theorem dX12_gives_48 : decode cX12_gives 48 = .ok (.iadd, 1) := by decide +kernel
theorem dX12_gives_49 : decode cX12_gives 49 = .ok (.aload_n 0, 1) := by decide +kernel
theorem dX12_gives_50 : decode cX12_gives 50 = .ok (.getfield 7, 3) := by decide +kernel
theorem dX12_gives_53 : decode cX12_gives 53 = .ok (.sipush 304, 3) := by decide +kernel
theorem dX12_gives_56 : decode cX12_gives 56 = .ok (.iload_n 2, 1) := by decide +kernel
theorem dX12_gives_57 : decode cX12_gives 57 = .ok (.iadd, 1) := by decide +kernel
theorem dX12_gives_58 : decode cX12_gives 58 = .ok (.iaload, 1) := by decide +kernel
theorem dX12_gives_59 : decode cX12_gives 59 = .ok (.aload_n 0, 1) := by decide +kernel
theorem dX12_gives_60 : decode cX12_gives 60 = .ok (.getfield 7, 3) := by decide +kernel
theorem dX12_gives_63 : decode cX12_gives 63 = .ok (.iconst 0, 1) := by decide +kernel
theorem dX12_gives_64 : decode cX12_gives 64 = .ok (.iload_n 1, 1) := by decide +kernel
theorem dX12_gives_65 : decode cX12_gives 65 = .ok (.iadd, 1) := by decide +kernel
theorem dX12_gives_66 : decode cX12_gives 66 = .ok (.iaload, 1) := by decide +kernel
theorem dX12_gives_67 : decode cX12_gives 67 = .ok (.iadd, 1) := by decide +kernel
theorem dX12_gives_68 : decode cX12_gives 68 = .ok (.iastore, 1) := by decide +kernel
theorem dX12_gives_69 : decode cX12_gives 69 = .ok (.aload_n 0, 1) := by decide +kernel
theorem dX12_gives_70 : decode cX12_gives 70 = .ok (.getfield 7, 3) := by decide +kernel
theorem dX12_gives_73 : decode cX12_gives 73 = .ok (.sipush 144, 3) := by decide +kernel
theorem dX12_gives_76 : decode cX12_gives 76 = .ok (.iload_n 1, 1) := by decide +kernel
theorem dX12_gives_77 : decode cX12_gives 77 = .ok (.iadd, 1) := by decide +kernel
theorem dX12_gives_78 : decode cX12_gives 78 = .ok (.iload_n 2, 1) := by decide +kernel
theorem dX12_gives_79 : decode cX12_gives 79 = .ok (.iastore, 1) := by decide +kernel
theorem dX12_gives_80 : decode cX12_gives 80 = .ok (.return_, 1) := by decide +kernel
set_option maxRecDepth 20000 in
set_option maxHeartbeats 4000000 in
theorem m_gives (E : xE) (l : Launch) (a : Nat → Nat) (cd : Cd) (hG : Good cd) (ws : va_W) (hW : WX (okM E a cd) ws) (i0 : Nat) (w0 : Nat) (hi0 : i0 ≤ 47) (hw0 : w0 ≤ 7) : xV E l yX12_gives cX12_gives 4 0 0 0 [.ref (a 0), .int (nI i0), .int (nI w0)] ws (fun w => WX (okM E a cd) w ∧ keeps ws w (fun q => q = 1)) := by
  refine xV_start (lv := [(0, .ref (a 0)), (1, .int (nI i0)), (2, .int (nI w0))]) RX12 (by decide) rfl (Nat.le_of_ble_eq_true rfl) rfl (fun p e s m below meth c A C hr hlk hin => ?_)
  have kp0 : keeps ws ws (fun q => q = 1) := keeps_rf
  refine x_aload_n C dX12_gives_0 rfl 0 rfl rfl ?_
  obtain ⟨_, k1, n2, n4, n6, v8, v9, v10, n11, n13, n15, n17, v19, v20, v21, v22, n23, n25, v27, bn3, bn5, bn7, bn12, bn14, bn16, bn18, bn24, bn26, zv28, rfl⟩ := hW 0 _ rfl
  refine x_get C (ci := 11) (k := 0) 0 k1 rfl in_X12 (by decide) w_1118 rfl dX12_gives_1 rfl ?_
  refine x_sipush C (v := 144) dX12_gives_4 (by decide) rfl ?_
  refine x_iload_n C dX12_gives_7 rfl 1 rfl rfl ?_
  refine x_iadd C (v := (nI (144 + i0))) dX12_gives_8 (nI_add 144 i0) rfl ?_
  obtain ⟨_, k29, f30, pf31, rfl⟩ := hW 1 _ rfl
  obtain ⟨n32, hn33, en34⟩ := NB_own (j := i0) pf31 (by omega)
  refine x_ialk C (v := nI n32) (144 + i0) (nI_clamp (by omega)) (nI_pos (by omega)) (by omega) 1 k29 en34 dX12_gives_9 rfl ?_
  refine x_istore_n C (lv' := [(3, .int (nI n32)), (0, .ref (a 0)), (1, .int (nI i0)), (2, .int (nI w0))]) dX12_gives_10 rfl (by decide) rfl rfl ?_
  refine x_aload_n C dX12_gives_11 rfl 1 rfl rfl ?_
  refine x_get C (ci := 11) (k := 0) 0 k1 rfl in_X12 (by decide) w_1118 rfl dX12_gives_12 rfl ?_
  refine x_sipush C (v := 312) dX12_gives_15 (by decide) rfl ?_
  refine x_iload_n C dX12_gives_18 rfl 0 rfl rfl ?_
  refine x_iadd C (v := (nI (312 + n32))) dX12_gives_19 (nI_add 312 n32) rfl ?_
  refine x_aload_n C dX12_gives_20 rfl 1 rfl rfl ?_
  refine x_get C (ci := 11) (k := 0) 0 k1 rfl in_X12 (by decide) w_1118 rfl dX12_gives_21 rfl ?_
  refine x_sipush C (v := 312) dX12_gives_24 (by decide) rfl ?_
  refine x_iload_n C dX12_gives_27 rfl 0 rfl rfl ?_
  refine x_iadd C (v := (nI (312 + n32))) dX12_gives_28 (nI_add 312 n32) rfl ?_
  refine x_iald C (v := (f30 (nI (312 + n32)).toNatClampNeg)) 1 k29 (vp_in_nI (by omega) (by decide)) rfl dX12_gives_29 rfl ?_
  refine x_any (fun v35 => ?_)
  refine x_aload_n C dX12_gives_30 rfl 1 rfl rfl ?_
  refine x_get C (ci := 11) (k := 0) 0 k1 rfl in_X12 (by decide) w_1118 rfl dX12_gives_31 rfl ?_
  refine x_iconst C (v := 0) dX12_gives_34 (by decide) rfl ?_
  refine x_iload_n C dX12_gives_35 rfl 2 rfl rfl ?_
  refine x_iadd C (v := (nI (0 + i0))) dX12_gives_36 (nI_add 0 i0) rfl ?_
  refine x_iald C (v := (f30 (nI (0 + i0)).toNatClampNeg)) 1 k29 (vp_in_nI (by omega) (by decide)) rfl dX12_gives_37 rfl ?_
  refine x_any (fun v36 => ?_)
  refine x_iadd C (v := (v35 + v36)) dX12_gives_38 rfl rfl ?_
  refine x_any (fun v37 => ?_)
  have pf38 : NB (upd f30 (312 + n32) v37) := NB_free pf31 (by unfold bd; omega)
  obtain ⟨w39, hw40⟩ : ∃ w : va_W, w = List.set ws 1 (iA E (a 1) 382 (upd f30 (312 + n32) v37)) := ⟨_, rfl⟩
  refine x_iask C (312 + n32) (nI_clamp (by omega)) (nI_pos (by omega)) (by omega) 1 k29 hw40.symm dX12_gives_39 rfl ?_
  have hW41 : WX (okM E a cd) w39 := by rw [hw40]; exact hW.set (k := 1) rfl ⟨_, pf38, rfl⟩
  have k42 : w39[0]? = some (ob (a 0) 11 [.ref (a 1), .ref (a 2), .ref (a 3), .ref (a 4), .int (nI n2), .int (nI n4), .int (nI n6), .int v8, .int v9, .int v10, .int (nI n11), .int (nI n13), .int (nI n15), .int (nI (cd.2.2.2.2.2)), .ref (a 5), .ref (a 6), .ref (a 7), .ref (a 8), .ref (a 9), .ref (a 10), .ref (a 11), .ref (a 12), .ref (a 13), .ref (a 14), .ref (a 15), .ref (a 16), .ref (a 17), .int (nI n17), .ref (a 18), .ref (a 19), .ref (a 20), .ref (a 21), .int v19, .int v20, .int v21, .int v22, .int (nI n23), .int (nI n25), .ref (a 22), .ref (a 23), .ref (a 24), .ref (a 25), .ref (a 26), .ref (a 27), .ref (a 28), .ref (a 29), .ref (a 30), .int v27]) := by rw [hw40]; exact set_ne k1 (by decide)
  have k43 : w39[1]? = some (iA E (a 1) 382 (upd f30 (312 + n32) v37)) := by rw [hw40]; exact set_eq k29
  have kp44 := keeps_set kp0 hw40 (by first | exact rfl | decide | omega | (dsimp only; omega))
  refine x_aload_n C dX12_gives_40 rfl 1 rfl rfl ?_
  refine x_get C (ci := 11) (k := 0) 0 k42 rfl in_X12 (by decide) w_1118 rfl dX12_gives_41 rfl ?_
  refine x_sipush C (v := 304) dX12_gives_44 (by decide) rfl ?_
  refine x_iload_n C dX12_gives_47 rfl 3 rfl rfl ?_
  refine x_iadd C (v := (nI (304 + w0))) dX12_gives_48 (nI_add 304 w0) rfl ?_
  refine x_aload_n C dX12_gives_49 rfl 1 rfl rfl ?_
  refine x_get C (ci := 11) (k := 0) 0 k42 rfl in_X12 (by decide) w_1118 rfl dX12_gives_50 rfl ?_
  refine x_sipush C (v := 304) dX12_gives_53 (by decide) rfl ?_
  refine x_iload_n C dX12_gives_56 rfl 3 rfl rfl ?_
  refine x_iadd C (v := (nI (304 + w0))) dX12_gives_57 (nI_add 304 w0) rfl ?_
  refine x_iald C (v := ((upd f30 (312 + n32) v37) (nI (304 + w0)).toNatClampNeg)) 1 k43 (vp_in_nI (by omega) (by decide)) rfl dX12_gives_58 rfl ?_
  refine x_any (fun v45 => ?_)
  refine x_aload_n C dX12_gives_59 rfl 1 rfl rfl ?_
  refine x_get C (ci := 11) (k := 0) 0 k42 rfl in_X12 (by decide) w_1118 rfl dX12_gives_60 rfl ?_
  refine x_iconst C (v := 0) dX12_gives_63 (by decide) rfl ?_
  refine x_iload_n C dX12_gives_64 rfl 2 rfl rfl ?_
  refine x_iadd C (v := (nI (0 + i0))) dX12_gives_65 (nI_add 0 i0) rfl ?_
  refine x_iald C (v := ((upd f30 (312 + n32) v37) (nI (0 + i0)).toNatClampNeg)) 1 k43 (vp_in_nI (by omega) (by decide)) rfl dX12_gives_66 rfl ?_
  refine x_any (fun v46 => ?_)
  refine x_iadd C (v := (v45 + v46)) dX12_gives_67 rfl rfl ?_
  refine x_any (fun v47 => ?_)
  have pf48 : NB (upd (upd f30 (312 + n32) v37) (304 + w0) v47) := NB_free pf38 (by unfold bd; omega)
  obtain ⟨w49, hw50⟩ : ∃ w : va_W, w = List.set w39 1 (iA E (a 1) 382 (upd (upd f30 (312 + n32) v37) (304 + w0) v47)) := ⟨_, rfl⟩
  refine x_iask C (304 + w0) (nI_clamp (by omega)) (nI_pos (by omega)) (by omega) 1 k43 hw50.symm dX12_gives_68 rfl ?_
  have hW51 : WX (okM E a cd) w49 := by rw [hw50]; exact hW41.set (k := 1) rfl ⟨_, pf48, rfl⟩
  have k52 : w49[0]? = some (ob (a 0) 11 [.ref (a 1), .ref (a 2), .ref (a 3), .ref (a 4), .int (nI n2), .int (nI n4), .int (nI n6), .int v8, .int v9, .int v10, .int (nI n11), .int (nI n13), .int (nI n15), .int (nI (cd.2.2.2.2.2)), .ref (a 5), .ref (a 6), .ref (a 7), .ref (a 8), .ref (a 9), .ref (a 10), .ref (a 11), .ref (a 12), .ref (a 13), .ref (a 14), .ref (a 15), .ref (a 16), .ref (a 17), .int (nI n17), .ref (a 18), .ref (a 19), .ref (a 20), .ref (a 21), .int v19, .int v20, .int v21, .int v22, .int (nI n23), .int (nI n25), .ref (a 22), .ref (a 23), .ref (a 24), .ref (a 25), .ref (a 26), .ref (a 27), .ref (a 28), .ref (a 29), .ref (a 30), .int v27]) := by rw [hw50]; exact set_ne k42 (by decide)
  have k53 : w49[1]? = some (iA E (a 1) 382 (upd (upd f30 (312 + n32) v37) (304 + w0) v47)) := by rw [hw50]; exact set_eq k43
  have kp54 := keeps_set kp44 hw50 (by first | exact rfl | decide | omega | (dsimp only; omega))
  refine x_aload_n C dX12_gives_69 rfl 1 rfl rfl ?_
  refine x_get C (ci := 11) (k := 0) 0 k52 rfl in_X12 (by decide) w_1118 rfl dX12_gives_70 rfl ?_
  refine x_sipush C (v := 144) dX12_gives_73 (by decide) rfl ?_
  refine x_iload_n C dX12_gives_76 rfl 2 rfl rfl ?_
  refine x_iadd C (v := (nI (144 + i0))) dX12_gives_77 (nI_add 144 i0) rfl ?_
  refine x_iload_n C dX12_gives_78 rfl 3 rfl rfl ?_
  have pf55 : NB (upd (upd (upd f30 (312 + n32) v37) (304 + w0) v47) (144 + i0) (nI w0)) := NB_put_own (j := i0) pf48 (by omega) (by omega)
  obtain ⟨w56, hw57⟩ : ∃ w : va_W, w = List.set w49 1 (iA E (a 1) 382 (upd (upd (upd f30 (312 + n32) v37) (304 + w0) v47) (144 + i0) (nI w0))) := ⟨_, rfl⟩
  refine x_iask C (144 + i0) (nI_clamp (by omega)) (nI_pos (by omega)) (by omega) 1 k53 hw57.symm dX12_gives_79 rfl ?_
  have hW58 : WX (okM E a cd) w56 := by rw [hw57]; exact hW51.set (k := 1) rfl ⟨_, pf55, rfl⟩
  have k59 : w56[0]? = some (ob (a 0) 11 [.ref (a 1), .ref (a 2), .ref (a 3), .ref (a 4), .int (nI n2), .int (nI n4), .int (nI n6), .int v8, .int v9, .int v10, .int (nI n11), .int (nI n13), .int (nI n15), .int (nI (cd.2.2.2.2.2)), .ref (a 5), .ref (a 6), .ref (a 7), .ref (a 8), .ref (a 9), .ref (a 10), .ref (a 11), .ref (a 12), .ref (a 13), .ref (a 14), .ref (a 15), .ref (a 16), .ref (a 17), .int (nI n17), .ref (a 18), .ref (a 19), .ref (a 20), .ref (a 21), .int v19, .int v20, .int v21, .int v22, .int (nI n23), .int (nI n25), .ref (a 22), .ref (a 23), .ref (a 24), .ref (a 25), .ref (a 26), .ref (a 27), .ref (a 28), .ref (a 29), .ref (a 30), .int v27]) := by rw [hw57]; exact set_ne k52 (by decide)
  have k60 : w56[1]? = some (iA E (a 1) 382 (upd (upd (upd f30 (312 + n32) v37) (304 + w0) v47) (144 + i0) (nI w0))) := by rw [hw57]; exact set_eq k53
  have kp61 := keeps_set kp54 hw57 (by first | exact rfl | decide | omega | (dsimp only; omega))
  exact x_vret C hr hlk dX12_gives_80 ⟨hW58, kp61⟩
theorem dX12_breaks_0 : decode cX12_breaks 0 = .ok (.aload_n 0, 1) := by decide +kernel
theorem dX12_breaks_1 : decode cX12_breaks 1 = .ok (.getfield 7, 3) := by decide +kernel
theorem dX12_breaks_4 : decode cX12_breaks 4 = .ok (.sipush 144, 3) := by decide +kernel
theorem dX12_breaks_7 : decode cX12_breaks 7 = .ok (.iload_n 1, 1) := by decide +kernel
theorem dX12_breaks_8 : decode cX12_breaks 8 = .ok (.iadd, 1) := by decide +kernel
theorem dX12_breaks_9 : decode cX12_breaks 9 = .ok (.iaload, 1) := by decide +kernel
theorem dX12_breaks_10 : decode cX12_breaks 10 = .ok (.istore_n 2, 1) := by decide +kernel
theorem dX12_breaks_11 : decode cX12_breaks 11 = .ok (.aload_n 0, 1) := by decide +kernel
theorem dX12_breaks_12 : decode cX12_breaks 12 = .ok (.getfield 7, 3) := by decide +kernel
theorem dX12_breaks_15 : decode cX12_breaks 15 = .ok (.sipush 288, 3) := by decide +kernel
theorem dX12_breaks_18 : decode cX12_breaks 18 = .ok (.iload_n 2, 1) := by decide +kernel
theorem dX12_breaks_19 : decode cX12_breaks 19 = .ok (.iadd, 1) := by decide +kernel
theorem dX12_breaks_20 : decode cX12_breaks 20 = .ok (.ldc_w 271, 3) := by decide +kernel
theorem dX12_breaks_23 : decode cX12_breaks 23 = .ok (.aload_n 0, 1) := by decide +kernel
theorem dX12_breaks_24 : decode cX12_breaks 24 = .ok (.getfield 7, 3) := by decide +kernel
theorem dX12_breaks_27 : decode cX12_breaks 27 = .ok (.sipush 288, 3) := by decide +kernel
theorem dX12_breaks_30 : decode cX12_breaks 30 = .ok (.iload_n 2, 1) := by decide +kernel
theorem dX12_breaks_31 : decode cX12_breaks 31 = .ok (.iadd, 1) := by decide +kernel
theorem dX12_breaks_32 : decode cX12_breaks 32 = .ok (.iaload, 1) := by decide +kernel
theorem dX12_breaks_33 : decode cX12_breaks 33 = .ok (.aload_n 0, 1) := by decide +kernel
theorem dX12_breaks_34 : decode cX12_breaks 34 = .ok (.getfield 7, 3) := by decide +kernel
theorem dX12_breaks_37 : decode cX12_breaks 37 = .ok (.iconst 0, 1) := by decide +kernel
theorem dX12_breaks_38 : decode cX12_breaks 38 = .ok (.iload_n 1, 1) := by decide +kernel
theorem dX12_breaks_39 : decode cX12_breaks 39 = .ok (.iadd, 1) := by decide +kernel
theorem dX12_breaks_40 : decode cX12_breaks 40 = .ok (.iaload, 1) := by decide +kernel
theorem dX12_breaks_41 : decode cX12_breaks 41 = .ok (.iadd, 1) := by decide +kernel
theorem dX12_breaks_42 : decode cX12_breaks 42 = .ok (.invokestatic 272, 3) := by decide +kernel
theorem dX12_breaks_45 : decode cX12_breaks 45 = .ok (.iastore, 1) := by decide +kernel
theorem dX12_breaks_46 : decode cX12_breaks 46 = .ok (.aload_n 0, 1) := by decide +kernel
theorem dX12_breaks_47 : decode cX12_breaks 47 = .ok (.getfield 7, 3) := by decide +kernel
theorem dX12_breaks_50 : decode cX12_breaks 50 = .ok (.sipush 240, 3) := by decide +kernel
theorem dX12_breaks_53 : decode cX12_breaks 53 = .ok (.iload_n 1, 1) := by decide +kernel
theorem dX12_breaks_54 : decode cX12_breaks 54 = .ok (.iadd, 1) := by decide +kernel
theorem dX12_breaks_55 : decode cX12_breaks 55 = .ok (.iconst 1, 1) := by decide +kernel
theorem dX12_breaks_56 : decode cX12_breaks 56 = .ok (.iastore, 1) := by decide +kernel
theorem dX12_breaks_57 : decode cX12_breaks 57 = .ok (.return_, 1) := by decide +kernel
set_option maxRecDepth 20000 in
set_option maxHeartbeats 4000000 in
theorem m_breaks (E : xE) (l : Launch) (a : Nat → Nat) (cd : Cd) (hG : Good cd) (ws : va_W) (hW : WX (okM E a cd) ws) (i0 : Nat) (hi0 : i0 ≤ 47) : xV E l yX12_breaks cX12_breaks 3 1 0 0 [.ref (a 0), .int (nI i0)] ws (fun w => WX (okM E a cd) w ∧ keeps ws w (fun q => q = 1)) := by
  refine xV_start (lv := [(0, .ref (a 0)), (1, .int (nI i0))]) RX12 (by decide) rfl (Nat.le_of_ble_eq_true rfl) rfl (fun p e s m below meth c A C hr hlk hin => ?_)
  have kp0 : keeps ws ws (fun q => q = 1) := keeps_rf
  refine x_aload_n C dX12_breaks_0 rfl 0 rfl rfl ?_
  obtain ⟨_, k1, n2, n4, n6, v8, v9, v10, n11, n13, n15, n17, v19, v20, v21, v22, n23, n25, v27, bn3, bn5, bn7, bn12, bn14, bn16, bn18, bn24, bn26, zv28, rfl⟩ := hW 0 _ rfl
  refine x_get C (ci := 11) (k := 0) 0 k1 rfl in_X12 (by decide) w_1118 rfl dX12_breaks_1 rfl ?_
  refine x_sipush C (v := 144) dX12_breaks_4 (by decide) rfl ?_
  refine x_iload_n C dX12_breaks_7 rfl 1 rfl rfl ?_
  refine x_iadd C (v := (nI (144 + i0))) dX12_breaks_8 (nI_add 144 i0) rfl ?_
  obtain ⟨_, k29, f30, pf31, rfl⟩ := hW 1 _ rfl
  obtain ⟨n32, hn33, en34⟩ := NB_own (j := i0) pf31 (by omega)
  refine x_ialk C (v := nI n32) (144 + i0) (nI_clamp (by omega)) (nI_pos (by omega)) (by omega) 1 k29 en34 dX12_breaks_9 rfl ?_
  refine x_istore_n C (lv' := [(2, .int (nI n32)), (0, .ref (a 0)), (1, .int (nI i0))]) dX12_breaks_10 rfl (by decide) rfl rfl ?_
  refine x_aload_n C dX12_breaks_11 rfl 1 rfl rfl ?_
  refine x_get C (ci := 11) (k := 0) 0 k1 rfl in_X12 (by decide) w_1118 rfl dX12_breaks_12 rfl ?_
  refine x_sipush C (v := 288) dX12_breaks_15 (by decide) rfl ?_
  refine x_iload_n C dX12_breaks_18 rfl 0 rfl rfl ?_
  refine x_iadd C (v := (nI (288 + n32))) dX12_breaks_19 (nI_add 288 n32) rfl ?_
  refine x_ldcw C w_1478 dX12_breaks_20 rfl ?_
  refine x_aload_n C dX12_breaks_23 rfl 1 rfl rfl ?_
  refine x_get C (ci := 11) (k := 0) 0 k1 rfl in_X12 (by decide) w_1118 rfl dX12_breaks_24 rfl ?_
  refine x_sipush C (v := 288) dX12_breaks_27 (by decide) rfl ?_
  refine x_iload_n C dX12_breaks_30 rfl 0 rfl rfl ?_
  refine x_iadd C (v := (nI (288 + n32))) dX12_breaks_31 (nI_add 288 n32) rfl ?_
  refine x_iald C (v := (f30 (nI (288 + n32)).toNatClampNeg)) 1 k29 (vp_in_nI (by omega) (by decide)) rfl dX12_breaks_32 rfl ?_
  refine x_any (fun v35 => ?_)
  refine x_aload_n C dX12_breaks_33 rfl 1 rfl rfl ?_
  refine x_get C (ci := 11) (k := 0) 0 k1 rfl in_X12 (by decide) w_1118 rfl dX12_breaks_34 rfl ?_
  refine x_iconst C (v := 0) dX12_breaks_37 (by decide) rfl ?_
  refine x_iload_n C dX12_breaks_38 rfl 2 rfl rfl ?_
  refine x_iadd C (v := (nI (0 + i0))) dX12_breaks_39 (nI_add 0 i0) rfl ?_
  refine x_iald C (v := (f30 (nI (0 + i0)).toNatClampNeg)) 1 k29 (vp_in_nI (by omega) (by decide)) rfl dX12_breaks_40 rfl ?_
  refine x_any (fun v36 => ?_)
  refine x_iadd C (v := (v35 + v36)) dX12_breaks_41 rfl rfl ?_
  refine x_any (fun v37 => ?_)
  refine x_si C (As := [.int 999999, .int v37]) (rest := [.int (nI (288 + n32)), .ref (a 1)]) (m_min E l a cd hG ws hW (999999 : Int32) v37) mf_X12_min w_1479 rfl rfl (Nat.le_of_ble_eq_true rfl) ⟨(Nat.le_of_ble_eq_true rfl), (Nat.le_of_ble_eq_true rfl)⟩ ⟨(Nat.le_of_ble_eq_true rfl), (Nat.le_of_ble_eq_true rfl)⟩ dX12_breaks_42 rfl (fun r39 w40 h38 => ?_)
  have hW41 := h38
  refine x_ws hW41 ?_
  have pf42 : NB (upd f30 (288 + n32) r39) := NB_free pf31 (by unfold bd; omega)
  obtain ⟨w43, hw44⟩ : ∃ w : va_W, w = List.set ws 1 (iA E (a 1) 382 (upd f30 (288 + n32) r39)) := ⟨_, rfl⟩
  refine x_iask C (288 + n32) (nI_clamp (by omega)) (nI_pos (by omega)) (by omega) 1 k29 hw44.symm dX12_breaks_45 rfl ?_
  have hW45 : WX (okM E a cd) w43 := by rw [hw44]; exact hW.set (k := 1) rfl ⟨_, pf42, rfl⟩
  have k46 : w43[0]? = some (ob (a 0) 11 [.ref (a 1), .ref (a 2), .ref (a 3), .ref (a 4), .int (nI n2), .int (nI n4), .int (nI n6), .int v8, .int v9, .int v10, .int (nI n11), .int (nI n13), .int (nI n15), .int (nI (cd.2.2.2.2.2)), .ref (a 5), .ref (a 6), .ref (a 7), .ref (a 8), .ref (a 9), .ref (a 10), .ref (a 11), .ref (a 12), .ref (a 13), .ref (a 14), .ref (a 15), .ref (a 16), .ref (a 17), .int (nI n17), .ref (a 18), .ref (a 19), .ref (a 20), .ref (a 21), .int v19, .int v20, .int v21, .int v22, .int (nI n23), .int (nI n25), .ref (a 22), .ref (a 23), .ref (a 24), .ref (a 25), .ref (a 26), .ref (a 27), .ref (a 28), .ref (a 29), .ref (a 30), .int v27]) := by rw [hw44]; exact set_ne k1 (by decide)
  have k47 : w43[1]? = some (iA E (a 1) 382 (upd f30 (288 + n32) r39)) := by rw [hw44]; exact set_eq k29
  have kp48 := keeps_set kp0 hw44 (by first | exact rfl | decide | omega | (dsimp only; omega))
  refine x_aload_n C dX12_breaks_46 rfl 1 rfl rfl ?_
  refine x_get C (ci := 11) (k := 0) 0 k46 rfl in_X12 (by decide) w_1118 rfl dX12_breaks_47 rfl ?_
  refine x_sipush C (v := 240) dX12_breaks_50 (by decide) rfl ?_
  refine x_iload_n C dX12_breaks_53 rfl 2 rfl rfl ?_
  refine x_iadd C (v := (nI (240 + i0))) dX12_breaks_54 (nI_add 240 i0) rfl ?_
  refine x_iconst C (v := 1) dX12_breaks_55 (by decide) rfl ?_
  have pf49 : NB (upd (upd f30 (288 + n32) r39) (240 + i0) (1 : Int32)) := NB_free pf42 (by unfold bd; omega)
  obtain ⟨w50, hw51⟩ : ∃ w : va_W, w = List.set w43 1 (iA E (a 1) 382 (upd (upd f30 (288 + n32) r39) (240 + i0) (1 : Int32))) := ⟨_, rfl⟩
  refine x_iask C (240 + i0) (nI_clamp (by omega)) (nI_pos (by omega)) (by omega) 1 k47 hw51.symm dX12_breaks_56 rfl ?_
  have hW52 : WX (okM E a cd) w50 := by rw [hw51]; exact hW45.set (k := 1) rfl ⟨_, pf49, rfl⟩
  have k53 : w50[0]? = some (ob (a 0) 11 [.ref (a 1), .ref (a 2), .ref (a 3), .ref (a 4), .int (nI n2), .int (nI n4), .int (nI n6), .int v8, .int v9, .int v10, .int (nI n11), .int (nI n13), .int (nI n15), .int (nI (cd.2.2.2.2.2)), .ref (a 5), .ref (a 6), .ref (a 7), .ref (a 8), .ref (a 9), .ref (a 10), .ref (a 11), .ref (a 12), .ref (a 13), .ref (a 14), .ref (a 15), .ref (a 16), .ref (a 17), .int (nI n17), .ref (a 18), .ref (a 19), .ref (a 20), .ref (a 21), .int v19, .int v20, .int v21, .int v22, .int (nI n23), .int (nI n25), .ref (a 22), .ref (a 23), .ref (a 24), .ref (a 25), .ref (a 26), .ref (a 27), .ref (a 28), .ref (a 29), .ref (a 30), .int v27]) := by rw [hw51]; exact set_ne k46 (by decide)
  have k54 : w50[1]? = some (iA E (a 1) 382 (upd (upd f30 (288 + n32) r39) (240 + i0) (1 : Int32))) := by rw [hw51]; exact set_eq k47
  have kp55 := keeps_set kp48 hw51 (by first | exact rfl | decide | omega | (dsimp only; omega))
  exact x_vret C hr hlk dX12_breaks_57 ⟨hW52, kp55⟩
theorem dX12_worksBy_0 : decode cX12_worksBy 0 = .ok (.aload_n 0, 1) := by decide +kernel
theorem dX12_worksBy_1 : decode cX12_worksBy 1 = .ok (.iload_n 1, 1) := by decide +kernel
theorem dX12_worksBy_2 : decode cX12_worksBy 2 = .ok (.iload_n 2, 1) := by decide +kernel
theorem dX12_worksBy_3 : decode cX12_worksBy 3 = .ok (.invokevirtual 275, 3) := by decide +kernel
theorem dX12_worksBy_6 : decode cX12_worksBy 6 = .ok (.istore_n 3, 1) := by decide +kernel
theorem dX12_worksBy_7 : decode cX12_worksBy 7 = .ok (.aload_n 0, 1) := by decide +kernel
theorem dX12_worksBy_8 : decode cX12_worksBy 8 = .ok (.iload_n 1, 1) := by decide +kernel
theorem dX12_worksBy_9 : decode cX12_worksBy 9 = .ok (.invokevirtual 278, 3) := by decide +kernel
theorem dX12_worksBy_12 : decode cX12_worksBy 12 = .ok (.aload_n 0, 1) := by decide +kernel
theorem dX12_worksBy_13 : decode cX12_worksBy 13 = .ok (.iload_n 2, 1) := by decide +kernel
theorem dX12_worksBy_14 : decode cX12_worksBy 14 = .ok (.invokevirtual 265, 3) := by decide +kernel
theorem dX12_worksBy_17 : decode cX12_worksBy 17 = .ok (.ifCond .eq 4, 3) := by decide +kernel
theorem dX12_worksBy_20 : decode cX12_worksBy 20 = .ok (.return_, 1) := by decide +kernel
theorem dX12_worksBy_21 : decode cX12_worksBy 21 = .ok (.aload_n 0, 1) := by decide +kernel
theorem dX12_worksBy_22 : decode cX12_worksBy 22 = .ok (.getfield 7, 3) := by decide +kernel
theorem dX12_worksBy_25 : decode cX12_worksBy 25 = .ok (.sipush 346, 3) := by decide +kernel
theorem dX12_worksBy_28 : decode cX12_worksBy 28 = .ok (.iload_n 2, 1) := by decide +kernel
theorem dX12_worksBy_29 : decode cX12_worksBy 29 = .ok (.iadd, 1) := by decide +kernel
theorem dX12_worksBy_30 : decode cX12_worksBy 30 = .ok (.aload_n 0, 1) := by decide +kernel
theorem dX12_worksBy_31 : decode cX12_worksBy 31 = .ok (.getfield 7, 3) := by decide +kernel
theorem dX12_worksBy_34 : decode cX12_worksBy 34 = .ok (.sipush 338, 3) := by decide +kernel
theorem dX12_worksBy_37 : decode cX12_worksBy 37 = .ok (.iload_n 2, 1) := by decide +kernel
theorem dX12_worksBy_38 : decode cX12_worksBy 38 = .ok (.iadd, 1) := by decide +kernel
theorem dX12_worksBy_39 : decode cX12_worksBy 39 = .ok (.iaload, 1) := by decide +kernel
theorem dX12_worksBy_40 : decode cX12_worksBy 40 = .ok (.aload_n 0, 1) := by decide +kernel
theorem dX12_worksBy_41 : decode cX12_worksBy 41 = .ok (.getfield 7, 3) := by decide +kernel
theorem dX12_worksBy_44 : decode cX12_worksBy 44 = .ok (.sipush 346, 3) := by decide +kernel
theorem dX12_worksBy_47 : decode cX12_worksBy 47 = .ok (.iload_n 2, 1) := by decide +kernel
theorem dX12_worksBy_48 : decode cX12_worksBy 48 = .ok (.iadd, 1) := by decide +kernel
theorem dX12_worksBy_49 : decode cX12_worksBy 49 = .ok (.iaload, 1) := by decide +kernel
theorem dX12_worksBy_50 : decode cX12_worksBy 50 = .ok (.iload_n 3, 1) := by decide +kernel
theorem dX12_worksBy_51 : decode cX12_worksBy 51 = .ok (.iadd, 1) := by decide +kernel
theorem dX12_worksBy_52 : decode cX12_worksBy 52 = .ok (.invokestatic 272, 3) := by decide +kernel
theorem dX12_worksBy_55 : decode cX12_worksBy 55 = .ok (.iastore, 1) := by decide +kernel
theorem dX12_worksBy_56 : decode cX12_worksBy 56 = .ok (.aload_n 0, 1) := by decide +kernel
theorem dX12_worksBy_57 : decode cX12_worksBy 57 = .ok (.iload_n 2, 1) := by decide +kernel
theorem dX12_worksBy_58 : decode cX12_worksBy 58 = .ok (.invokevirtual 265, 3) := by decide +kernel
theorem dX12_worksBy_61 : decode cX12_worksBy 61 = .ok (.ifCond .eq 21, 3) := by decide +kernel
theorem dX12_worksBy_64 : decode cX12_worksBy 64 = .ok (.aload_n 0, 1) := by decide +kernel
theorem dX12_worksBy_65 : decode cX12_worksBy 65 = .ok (.getfield 7, 3) := by decide +kernel
theorem dX12_worksBy_68 : decode cX12_worksBy 68 = .ok (.sipush 370, 3) := by decide +kernel
theorem dX12_worksBy_71 : decode cX12_worksBy 71 = .ok (.iload_n 2, 1) := by decide +kernel
theorem dX12_worksBy_72 : decode cX12_worksBy 72 = .ok (.iadd, 1) := by decide +kernel
theorem dX12_worksBy_73 : decode cX12_worksBy 73 = .ok (.aload_n 0, 1) := by decide +kernel
theorem dX12_worksBy_74 : decode cX12_worksBy 74 = .ok (.getfield 7, 3) := by decide +kernel
theorem dX12_worksBy_77 : decode cX12_worksBy 77 = .ok (.sipush 379, 3) := by decide +kernel
theorem dX12_worksBy_80 : decode cX12_worksBy 80 = .ok (.iaload, 1) := by decide +kernel
theorem dX12_worksBy_81 : decode cX12_worksBy 81 = .ok (.iastore, 1) := by decide +kernel
theorem dX12_worksBy_82 : decode cX12_worksBy 82 = .ok (.return_, 1) := by decide +kernel
set_option maxRecDepth 20000 in
set_option maxHeartbeats 4000000 in
theorem m_worksBy (E : xE) (l : Launch) (a : Nat → Nat) (cd : Cd) (hG : Good cd) (ws : va_W) (hW : WX (okM E a cd) ws) (i0 : Nat) (w0 : Nat) (hi0 : i0 ≤ 47) (hw0 : w0 ≤ 7) : xV E l yX12_worksBy cX12_worksBy 4 4 0 0 [.ref (a 0), .int (nI i0), .int (nI w0)] ws (fun w => WX (okM E a cd) w ∧ keeps ws w (fun q => q = 1 ∨ q = 16 ∨ q = 17)) := by
  refine xV_start (lv := [(0, .ref (a 0)), (1, .int (nI i0)), (2, .int (nI w0))]) RX12 (by decide) rfl (Nat.le_of_ble_eq_true rfl) rfl (fun p e s m below meth c A C hr hlk hin => ?_)
  have kp0 : keeps ws ws (fun q => q = 1 ∨ q = 16 ∨ q = 17) := keeps_rf
  obtain ⟨_, k1, f2, pf3, rfl⟩ := hW 1 _ rfl
  refine x_aload_n C dX12_worksBy_0 rfl 0 rfl rfl ?_
  refine x_iload_n C dX12_worksBy_1 rfl 1 rfl rfl ?_
  refine x_iload_n C dX12_worksBy_2 rfl 2 rfl rfl ?_
  obtain ⟨_, k4, n5, n7, n9, v11, v12, v13, n14, n16, n18, n20, v22, v23, v24, v25, n26, n28, v30, bn6, bn8, bn10, bn15, bn17, bn19, bn21, bn27, bn29, zv31, rfl⟩ := hW 0 _ rfl
  refine x_vi C (As := [.int (nI i0), .int (nI w0)]) (rest := []) (m_worthFor E l a cd hG ws hW i0 ((nI w0)) (by omega) f2 k1) mf_X12_worthFor w_1451 0 k4 rfl rfl rfl (Nat.le_of_ble_eq_true rfl) ⟨(Nat.le_of_ble_eq_true rfl), (Nat.le_of_ble_eq_true rfl)⟩ ⟨(Nat.le_of_ble_eq_true rfl), (Nat.le_of_ble_eq_true rfl)⟩ dX12_worksBy_3 rfl (fun r33 w34 h32 => ?_)
  obtain ⟨hW35, kq36, ⟨m38, bm39, e37⟩, x40⟩ := h32
  refine x_top e37 ?_
  have k41 : w34[1]? = some (iA E (a 1) 382 f2) := keeps_at kq36 k1 (by first | decide | omega | (dsimp only; omega))
  have k42 : w34[0]? = some (ob (a 0) 11 [.ref (a 1), .ref (a 2), .ref (a 3), .ref (a 4), .int (nI n5), .int (nI n7), .int (nI n9), .int v11, .int v12, .int v13, .int (nI n14), .int (nI n16), .int (nI n18), .int (nI (cd.2.2.2.2.2)), .ref (a 5), .ref (a 6), .ref (a 7), .ref (a 8), .ref (a 9), .ref (a 10), .ref (a 11), .ref (a 12), .ref (a 13), .ref (a 14), .ref (a 15), .ref (a 16), .ref (a 17), .int (nI n20), .ref (a 18), .ref (a 19), .ref (a 20), .ref (a 21), .int v22, .int v23, .int v24, .int v25, .int (nI n26), .int (nI n28), .ref (a 22), .ref (a 23), .ref (a 24), .ref (a 25), .ref (a 26), .ref (a 27), .ref (a 28), .ref (a 29), .ref (a 30), .int v30]) := keeps_at kq36 k4 (by first | decide | omega | (dsimp only; omega))
  have kp43 := keeps_tr kp0 kq36 (fun q hq => by first | omega | (dsimp only at *; omega))
  refine x_istore_n C (lv' := [(3, .int (nI m38)), (0, .ref (a 0)), (1, .int (nI i0)), (2, .int (nI w0))]) dX12_worksBy_6 rfl (by decide) rfl rfl ?_
  refine x_aload_n C dX12_worksBy_7 rfl 1 rfl rfl ?_
  refine x_iload_n C dX12_worksBy_8 rfl 2 rfl rfl ?_
  refine x_vv C (As := [.int (nI i0)]) (rest := []) (m_breaks E l a cd hG w34 hW35 i0 (by omega)) mf_X12_breaks w_1474 0 k42 rfl rfl rfl (Nat.le_of_ble_eq_true rfl) ⟨(Nat.le_of_ble_eq_true rfl), (Nat.le_of_ble_eq_true rfl)⟩ ⟨(Nat.le_of_ble_eq_true rfl), (Nat.le_of_ble_eq_true rfl)⟩ dX12_worksBy_9 rfl (fun w46 h44 => ?_)
  obtain ⟨hW47, kq48⟩ := h44
  have k49 : w46[0]? = some (ob (a 0) 11 [.ref (a 1), .ref (a 2), .ref (a 3), .ref (a 4), .int (nI n5), .int (nI n7), .int (nI n9), .int v11, .int v12, .int v13, .int (nI n14), .int (nI n16), .int (nI n18), .int (nI (cd.2.2.2.2.2)), .ref (a 5), .ref (a 6), .ref (a 7), .ref (a 8), .ref (a 9), .ref (a 10), .ref (a 11), .ref (a 12), .ref (a 13), .ref (a 14), .ref (a 15), .ref (a 16), .ref (a 17), .int (nI n20), .ref (a 18), .ref (a 19), .ref (a 20), .ref (a 21), .int v22, .int v23, .int v24, .int v25, .int (nI n26), .int (nI n28), .ref (a 22), .ref (a 23), .ref (a 24), .ref (a 25), .ref (a 26), .ref (a 27), .ref (a 28), .ref (a 29), .ref (a 30), .int v30]) := keeps_at kq48 k42 (by first | decide | omega | (dsimp only; omega))
  have kp50 := keeps_tr kp43 kq48 (fun q hq => by first | omega | (dsimp only at *; omega))
  refine x_aload_n C dX12_worksBy_12 rfl 1 rfl rfl ?_
  refine x_iload_n C dX12_worksBy_13 rfl 3 rfl rfl ?_
  refine x_vi C (As := [.int (nI w0)]) (rest := []) (m_isDone E l a cd hG w46 hW47 w0 (by omega)) mf_X12_isDone w_1431 0 k49 rfl rfl rfl (Nat.le_of_ble_eq_true rfl) ⟨(Nat.le_of_ble_eq_true rfl), (Nat.le_of_ble_eq_true rfl)⟩ ⟨(Nat.le_of_ble_eq_true rfl), (Nat.le_of_ble_eq_true rfl)⟩ dX12_worksBy_14 rfl (fun r52 w53 h51 => ?_)
  obtain ⟨hW54, zb55⟩ := h51
  refine x_ws hW54 ?_
  refine x_if_eq C (tgt := 21) dX12_worksBy_17 (by decide) rfl (fun c56 => ?_) (fun c56 => ?_)
  · skip
    refine x_aload_n C dX12_worksBy_21 rfl 1 rfl rfl ?_
    refine x_get C (ci := 11) (k := 0) 0 k49 rfl in_X12 (by decide) w_1118 rfl dX12_worksBy_22 rfl ?_
    refine x_sipush C (v := 346) dX12_worksBy_25 (by decide) rfl ?_
    refine x_iload_n C dX12_worksBy_28 rfl 3 rfl rfl ?_
    refine x_iadd C (v := (nI (346 + w0))) dX12_worksBy_29 (nI_add 346 w0) rfl ?_
    refine x_aload_n C dX12_worksBy_30 rfl 1 rfl rfl ?_
    refine x_get C (ci := 11) (k := 0) 0 k49 rfl in_X12 (by decide) w_1118 rfl dX12_worksBy_31 rfl ?_
    refine x_sipush C (v := 338) dX12_worksBy_34 (by decide) rfl ?_
    refine x_iload_n C dX12_worksBy_37 rfl 3 rfl rfl ?_
    refine x_iadd C (v := (nI (338 + w0))) dX12_worksBy_38 (nI_add 338 w0) rfl ?_
    obtain ⟨_, k57, f58, pf59, rfl⟩ := hW47 1 _ rfl
    refine x_iald C (v := (f58 (nI (338 + w0)).toNatClampNeg)) 1 k57 (vp_in_nI (by omega) (by decide)) rfl dX12_worksBy_39 rfl ?_
    refine x_any (fun v60 => ?_)
    refine x_aload_n C dX12_worksBy_40 rfl 1 rfl rfl ?_
    refine x_get C (ci := 11) (k := 0) 0 k49 rfl in_X12 (by decide) w_1118 rfl dX12_worksBy_41 rfl ?_
    refine x_sipush C (v := 346) dX12_worksBy_44 (by decide) rfl ?_
    refine x_iload_n C dX12_worksBy_47 rfl 3 rfl rfl ?_
    refine x_iadd C (v := (nI (346 + w0))) dX12_worksBy_48 (nI_add 346 w0) rfl ?_
    refine x_iald C (v := (f58 (nI (346 + w0)).toNatClampNeg)) 1 k57 (vp_in_nI (by omega) (by decide)) rfl dX12_worksBy_49 rfl ?_
    refine x_any (fun v61 => ?_)
    refine x_iload_n C dX12_worksBy_50 rfl 0 rfl rfl ?_
    refine x_iadd C (v := (v61 + (nI m38))) dX12_worksBy_51 rfl rfl ?_
    refine x_any (fun v62 => ?_)
    refine x_si C (As := [.int v60, .int v62]) (rest := [.int (nI (346 + w0)), .ref (a 1)]) (m_min E l a cd hG w46 hW47 v60 v62) mf_X12_min w_1479 rfl rfl (Nat.le_of_ble_eq_true rfl) ⟨(Nat.le_of_ble_eq_true rfl), (Nat.le_of_ble_eq_true rfl)⟩ ⟨(Nat.le_of_ble_eq_true rfl), (Nat.le_of_ble_eq_true rfl)⟩ dX12_worksBy_52 rfl (fun r64 w65 h63 => ?_)
    have hW66 := h63
    refine x_ws hW66 ?_
    have pf67 : NB (upd f58 (346 + w0) r64) := NB_free pf59 (by unfold bd; omega)
    obtain ⟨w68, hw69⟩ : ∃ w : va_W, w = List.set w46 1 (iA E (a 1) 382 (upd f58 (346 + w0) r64)) := ⟨_, rfl⟩
    refine x_iask C (346 + w0) (nI_clamp (by omega)) (nI_pos (by omega)) (by omega) 1 k57 hw69.symm dX12_worksBy_55 rfl ?_
    have hW70 : WX (okM E a cd) w68 := by rw [hw69]; exact hW47.set (k := 1) rfl ⟨_, pf67, rfl⟩
    have k71 : w68[0]? = some (ob (a 0) 11 [.ref (a 1), .ref (a 2), .ref (a 3), .ref (a 4), .int (nI n5), .int (nI n7), .int (nI n9), .int v11, .int v12, .int v13, .int (nI n14), .int (nI n16), .int (nI n18), .int (nI (cd.2.2.2.2.2)), .ref (a 5), .ref (a 6), .ref (a 7), .ref (a 8), .ref (a 9), .ref (a 10), .ref (a 11), .ref (a 12), .ref (a 13), .ref (a 14), .ref (a 15), .ref (a 16), .ref (a 17), .int (nI n20), .ref (a 18), .ref (a 19), .ref (a 20), .ref (a 21), .int v22, .int v23, .int v24, .int v25, .int (nI n26), .int (nI n28), .ref (a 22), .ref (a 23), .ref (a 24), .ref (a 25), .ref (a 26), .ref (a 27), .ref (a 28), .ref (a 29), .ref (a 30), .int v30]) := by rw [hw69]; exact set_ne k49 (by decide)
    have k72 : w68[1]? = some (iA E (a 1) 382 (upd f58 (346 + w0) r64)) := by rw [hw69]; exact set_eq k57
    have kp73 := keeps_set kp50 hw69 (by first | exact rfl | decide | omega | (dsimp only; omega))
    refine x_aload_n C dX12_worksBy_56 rfl 1 rfl rfl ?_
    refine x_iload_n C dX12_worksBy_57 rfl 3 rfl rfl ?_
    refine x_vi C (As := [.int (nI w0)]) (rest := []) (m_isDone E l a cd hG w68 hW70 w0 (by omega)) mf_X12_isDone w_1431 0 k71 rfl rfl rfl (Nat.le_of_ble_eq_true rfl) ⟨(Nat.le_of_ble_eq_true rfl), (Nat.le_of_ble_eq_true rfl)⟩ ⟨(Nat.le_of_ble_eq_true rfl), (Nat.le_of_ble_eq_true rfl)⟩ dX12_worksBy_58 rfl (fun r75 w76 h74 => ?_)
    obtain ⟨hW77, zb78⟩ := h74
    refine x_ws hW77 ?_
    refine x_if_eq C (tgt := 82) dX12_worksBy_61 (by decide) rfl (fun c79 => ?_) (fun c79 => ?_)
    · skip
      exact x_vret C hr hlk dX12_worksBy_82 ⟨hW70, kp73⟩
    · skip
      refine x_aload_n C dX12_worksBy_64 rfl 1 rfl rfl ?_
      refine x_get C (ci := 11) (k := 0) 0 k71 rfl in_X12 (by decide) w_1118 rfl dX12_worksBy_65 rfl ?_
      refine x_sipush C (v := 370) dX12_worksBy_68 (by decide) rfl ?_
      refine x_iload_n C dX12_worksBy_71 rfl 3 rfl rfl ?_
      refine x_iadd C (v := (nI (370 + w0))) dX12_worksBy_72 (nI_add 370 w0) rfl ?_
      refine x_aload_n C dX12_worksBy_73 rfl 1 rfl rfl ?_
      refine x_get C (ci := 11) (k := 0) 0 k71 rfl in_X12 (by decide) w_1118 rfl dX12_worksBy_74 rfl ?_
      refine x_sipush C (v := 379) dX12_worksBy_77 (by decide) rfl ?_
      obtain ⟨n80, hn81, en82⟩ := NB_day pf67
      refine x_ialk C (v := nI n80) 379 (by decide) (by decide) (by decide) 1 k72 en82 dX12_worksBy_80 rfl ?_
      have pf83 : NB (upd (upd f58 (346 + w0) r64) (370 + w0) (nI n80)) := NB_free pf67 (by unfold bd; omega)
      obtain ⟨w84, hw85⟩ : ∃ w : va_W, w = List.set w68 1 (iA E (a 1) 382 (upd (upd f58 (346 + w0) r64) (370 + w0) (nI n80))) := ⟨_, rfl⟩
      refine x_iask C (370 + w0) (nI_clamp (by omega)) (nI_pos (by omega)) (by omega) 1 k72 hw85.symm dX12_worksBy_81 rfl ?_
      have hW86 : WX (okM E a cd) w84 := by rw [hw85]; exact hW70.set (k := 1) rfl ⟨_, pf83, rfl⟩
      have k87 : w84[0]? = some (ob (a 0) 11 [.ref (a 1), .ref (a 2), .ref (a 3), .ref (a 4), .int (nI n5), .int (nI n7), .int (nI n9), .int v11, .int v12, .int v13, .int (nI n14), .int (nI n16), .int (nI n18), .int (nI (cd.2.2.2.2.2)), .ref (a 5), .ref (a 6), .ref (a 7), .ref (a 8), .ref (a 9), .ref (a 10), .ref (a 11), .ref (a 12), .ref (a 13), .ref (a 14), .ref (a 15), .ref (a 16), .ref (a 17), .int (nI n20), .ref (a 18), .ref (a 19), .ref (a 20), .ref (a 21), .int v22, .int v23, .int v24, .int v25, .int (nI n26), .int (nI n28), .ref (a 22), .ref (a 23), .ref (a 24), .ref (a 25), .ref (a 26), .ref (a 27), .ref (a 28), .ref (a 29), .ref (a 30), .int v30]) := by rw [hw85]; exact set_ne k71 (by decide)
      have k88 : w84[1]? = some (iA E (a 1) 382 (upd (upd f58 (346 + w0) r64) (370 + w0) (nI n80))) := by rw [hw85]; exact set_eq k72
      have kp89 := keeps_set kp73 hw85 (by first | exact rfl | decide | omega | (dsimp only; omega))
      exact x_vret C hr hlk dX12_worksBy_82 ⟨hW86, kp89⟩
  · skip
    exact x_vret C hr hlk dX12_worksBy_20 ⟨hW47, kp50⟩
theorem dX12_broods_0 : decode cX12_broods 0 = .ok (.aload_n 0, 1) := by decide +kernel
theorem dX12_broods_1 : decode cX12_broods 1 = .ok (.iload_n 1, 1) := by decide +kernel
theorem dX12_broods_2 : decode cX12_broods 2 = .ok (.invokevirtual 237, 3) := by decide +kernel
theorem dX12_broods_5 : decode cX12_broods 5 = .ok (.aload_n 0, 1) := by decide +kernel
theorem dX12_broods_6 : decode cX12_broods 6 = .ok (.getfield 7, 3) := by decide +kernel
theorem dX12_broods_9 : decode cX12_broods 9 = .ok (.iconst 0, 1) := by decide +kernel
theorem dX12_broods_10 : decode cX12_broods 10 = .ok (.iload_n 1, 1) := by decide +kernel
theorem dX12_broods_11 : decode cX12_broods 11 = .ok (.iadd, 1) := by decide +kernel
theorem dX12_broods_12 : decode cX12_broods 12 = .ok (.sipush 240, 3) := by decide +kernel
theorem dX12_broods_15 : decode cX12_broods 15 = .ok (.aload_n 0, 1) := by decide +kernel
theorem dX12_broods_16 : decode cX12_broods 16 = .ok (.getfield 7, 3) := by decide +kernel
theorem dX12_broods_19 : decode cX12_broods 19 = .ok (.iconst 0, 1) := by decide +kernel
theorem dX12_broods_20 : decode cX12_broods 20 = .ok (.iload_n 1, 1) := by decide +kernel
theorem dX12_broods_21 : decode cX12_broods 21 = .ok (.iadd, 1) := by decide +kernel
theorem dX12_broods_22 : decode cX12_broods 22 = .ok (.iaload, 1) := by decide +kernel
theorem dX12_broods_23 : decode cX12_broods 23 = .ok (.aload_n 0, 1) := by decide +kernel
theorem dX12_broods_24 : decode cX12_broods 24 = .ok (.bipush 104, 2) := by decide +kernel
theorem dX12_broods_26 : decode cX12_broods 26 = .ok (.bipush 60, 2) := by decide +kernel
theorem dX12_broods_28 : decode cX12_broods 28 = .ok (.invokevirtual 240, 3) := by decide +kernel
theorem dX12_broods_31 : decode cX12_broods 31 = .ok (.iadd, 1) := by decide +kernel
theorem dX12_broods_32 : decode cX12_broods 32 = .ok (.invokestatic 272, 3) := by decide +kernel
theorem dX12_broods_35 : decode cX12_broods 35 = .ok (.iastore, 1) := by decide +kernel
theorem dX12_broods_36 : decode cX12_broods 36 = .ok (.aload_n 0, 1) := by decide +kernel
theorem dX12_broods_37 : decode cX12_broods 37 = .ok (.getfield 7, 3) := by decide +kernel
theorem dX12_broods_40 : decode cX12_broods 40 = .ok (.sipush 192, 3) := by decide +kernel
theorem dX12_broods_43 : decode cX12_broods 43 = .ok (.iload_n 1, 1) := by decide +kernel
theorem dX12_broods_44 : decode cX12_broods 44 = .ok (.iadd, 1) := by decide +kernel
theorem dX12_broods_45 : decode cX12_broods 45 = .ok (.aload_n 0, 1) := by decide +kernel
theorem dX12_broods_46 : decode cX12_broods 46 = .ok (.getfield 7, 3) := by decide +kernel
theorem dX12_broods_49 : decode cX12_broods 49 = .ok (.sipush 192, 3) := by decide +kernel
theorem dX12_broods_52 : decode cX12_broods 52 = .ok (.iload_n 1, 1) := by decide +kernel
theorem dX12_broods_53 : decode cX12_broods 53 = .ok (.iadd, 1) := by decide +kernel
theorem dX12_broods_54 : decode cX12_broods 54 = .ok (.iaload, 1) := by decide +kernel
theorem dX12_broods_55 : decode cX12_broods 55 = .ok (.iconst 1, 1) := by decide +kernel
theorem dX12_broods_56 : decode cX12_broods 56 = .ok (.iadd, 1) := by decide +kernel
theorem dX12_broods_57 : decode cX12_broods 57 = .ok (.iastore, 1) := by decide +kernel
theorem dX12_broods_58 : decode cX12_broods 58 = .ok (.return_, 1) := by decide +kernel
set_option maxRecDepth 20000 in
set_option maxHeartbeats 4000000 in
theorem m_broods (E : xE) (l : Launch) (a : Nat → Nat) (cd : Cd) (hG : Good cd) (ws : va_W) (hW : WX (okM E a cd) ws) (i0 : Nat) (hi0 : i0 ≤ 47) : xV E l yX12_broods cX12_broods 2 3 0 0 [.ref (a 0), .int (nI i0)] ws (fun w => WX (okM E a cd) w ∧ keeps ws w (fun q => q = 1 ∨ q = 16 ∨ q = 17)) := by
  refine xV_start (lv := [(0, .ref (a 0)), (1, .int (nI i0))]) RX12 (by decide) rfl (Nat.le_of_ble_eq_true rfl) rfl (fun p e s m below meth c A C hr hlk hin => ?_)
  have kp0 : keeps ws ws (fun q => q = 1 ∨ q = 16 ∨ q = 17) := keeps_rf
  obtain ⟨_, k1, f2, pf3, rfl⟩ := hW 1 _ rfl
  refine x_aload_n C dX12_broods_0 rfl 0 rfl rfl ?_
  refine x_iload_n C dX12_broods_1 rfl 1 rfl rfl ?_
  obtain ⟨_, k4, n5, n7, n9, v11, v12, v13, n14, n16, n18, n20, v22, v23, v24, v25, n26, n28, v30, bn6, bn8, bn10, bn15, bn17, bn19, bn21, bn27, bn29, zv31, rfl⟩ := hW 0 _ rfl
  refine x_vv C (As := [.int (nI i0)]) (rest := []) (m_feelsEgg E l a cd hG ws hW i0 (by omega) f2 k1) mf_X12_feelsEgg w_1455 0 k4 rfl rfl rfl (Nat.le_of_ble_eq_true rfl) ⟨(Nat.le_of_ble_eq_true rfl), (Nat.le_of_ble_eq_true rfl)⟩ ⟨(Nat.le_of_ble_eq_true rfl), (Nat.le_of_ble_eq_true rfl)⟩ dX12_broods_2 rfl (fun w34 h32 => ?_)
  obtain ⟨hW35, kq36, x37⟩ := h32
  have k38 : w34[1]? = some (iA E (a 1) 382 f2) := keeps_at kq36 k1 (by first | decide | omega | (dsimp only; omega))
  have k39 : w34[0]? = some (ob (a 0) 11 [.ref (a 1), .ref (a 2), .ref (a 3), .ref (a 4), .int (nI n5), .int (nI n7), .int (nI n9), .int v11, .int v12, .int v13, .int (nI n14), .int (nI n16), .int (nI n18), .int (nI (cd.2.2.2.2.2)), .ref (a 5), .ref (a 6), .ref (a 7), .ref (a 8), .ref (a 9), .ref (a 10), .ref (a 11), .ref (a 12), .ref (a 13), .ref (a 14), .ref (a 15), .ref (a 16), .ref (a 17), .int (nI n20), .ref (a 18), .ref (a 19), .ref (a 20), .ref (a 21), .int v22, .int v23, .int v24, .int v25, .int (nI n26), .int (nI n28), .ref (a 22), .ref (a 23), .ref (a 24), .ref (a 25), .ref (a 26), .ref (a 27), .ref (a 28), .ref (a 29), .ref (a 30), .int v30]) := keeps_at kq36 k4 (by first | decide | omega | (dsimp only; omega))
  have kp40 := keeps_tr kp0 kq36 (fun q hq => by first | omega | (dsimp only at *; omega))
  obtain ⟨g41, k42, ecl43⟩ := x37
  refine x_aload_n C dX12_broods_5 rfl 0 rfl rfl ?_
  refine x_get C (ci := 11) (k := 0) 0 k39 rfl in_X12 (by decide) w_1118 rfl dX12_broods_6 rfl ?_
  refine x_iconst C (v := 0) dX12_broods_9 (by decide) rfl ?_
  refine x_iload_n C dX12_broods_10 rfl 1 rfl rfl ?_
  refine x_iadd C (v := (nI (0 + i0))) dX12_broods_11 (nI_add 0 i0) rfl ?_
  refine x_sipush C (v := 240) dX12_broods_12 (by decide) rfl ?_
  refine x_aload_n C dX12_broods_15 rfl 0 rfl rfl ?_
  refine x_get C (ci := 11) (k := 0) 0 k39 rfl in_X12 (by decide) w_1118 rfl dX12_broods_16 rfl ?_
  refine x_iconst C (v := 0) dX12_broods_19 (by decide) rfl ?_
  refine x_iload_n C dX12_broods_20 rfl 1 rfl rfl ?_
  refine x_iadd C (v := (nI (0 + i0))) dX12_broods_21 (nI_add 0 i0) rfl ?_
  refine x_iald C (v := (f2 (nI (0 + i0)).toNatClampNeg)) 1 k38 (vp_in_nI (by omega) (by decide)) rfl dX12_broods_22 rfl ?_
  refine x_any (fun v44 => ?_)
  refine x_aload_n C dX12_broods_23 rfl 0 rfl rfl ?_
  refine x_bipush C (v := 104) dX12_broods_24 (by decide) rfl ?_
  refine x_bipush C (v := 60) dX12_broods_26 (by decide) rfl ?_
  refine x_vi C (As := [.int 104, .int 60]) (rest := [.int v44, .int 240, .int (nI (0 + i0)), .ref (a 1)]) (m_byLaw E l a cd hG w34 hW35 (104 : Int32) 60 (by omega) g41 k42) mf_X12_byLaw w_1463 0 k39 rfl rfl rfl (Nat.le_of_ble_eq_true rfl) ⟨(Nat.le_of_ble_eq_true rfl), (Nat.le_of_ble_eq_true rfl)⟩ ⟨(Nat.le_of_ble_eq_true rfl), (Nat.le_of_ble_eq_true rfl)⟩ dX12_broods_28 rfl (fun r46 w47 h45 => ?_)
  obtain ⟨hW48, kq49, ⟨m51, bm52, e50⟩, x53⟩ := h45
  refine x_top e50 ?_
  have k54 : w47[1]? = some (iA E (a 1) 382 f2) := keeps_at kq49 k38 (by first | decide | omega | (dsimp only; omega))
  have k55 : w47[0]? = some (ob (a 0) 11 [.ref (a 1), .ref (a 2), .ref (a 3), .ref (a 4), .int (nI n5), .int (nI n7), .int (nI n9), .int v11, .int v12, .int v13, .int (nI n14), .int (nI n16), .int (nI n18), .int (nI (cd.2.2.2.2.2)), .ref (a 5), .ref (a 6), .ref (a 7), .ref (a 8), .ref (a 9), .ref (a 10), .ref (a 11), .ref (a 12), .ref (a 13), .ref (a 14), .ref (a 15), .ref (a 16), .ref (a 17), .int (nI n20), .ref (a 18), .ref (a 19), .ref (a 20), .ref (a 21), .int v22, .int v23, .int v24, .int v25, .int (nI n26), .int (nI n28), .ref (a 22), .ref (a 23), .ref (a 24), .ref (a 25), .ref (a 26), .ref (a 27), .ref (a 28), .ref (a 29), .ref (a 30), .int v30]) := keeps_at kq49 k39 (by first | decide | omega | (dsimp only; omega))
  have k56 : w47[17]? = some (iA E (a 17) 11 g41) := keeps_at kq49 k42 (by first | decide | omega | (dsimp only; omega))
  have kp57 := keeps_tr kp40 kq49 (fun q hq => by first | omega | (dsimp only at *; omega))
  refine x_iadd C (v := (v44 + (nI m51))) dX12_broods_31 rfl rfl ?_
  refine x_any (fun v58 => ?_)
  refine x_si C (As := [.int 240, .int v58]) (rest := [.int (nI (0 + i0)), .ref (a 1)]) (m_min E l a cd hG w47 hW48 (240 : Int32) v58) mf_X12_min w_1479 rfl rfl (Nat.le_of_ble_eq_true rfl) ⟨(Nat.le_of_ble_eq_true rfl), (Nat.le_of_ble_eq_true rfl)⟩ ⟨(Nat.le_of_ble_eq_true rfl), (Nat.le_of_ble_eq_true rfl)⟩ dX12_broods_32 rfl (fun r60 w61 h59 => ?_)
  have hW62 := h59
  refine x_ws hW62 ?_
  have pf63 : NB (upd f2 (0 + i0) r60) := NB_free pf3 (by unfold bd; omega)
  obtain ⟨w64, hw65⟩ : ∃ w : va_W, w = List.set w47 1 (iA E (a 1) 382 (upd f2 (0 + i0) r60)) := ⟨_, rfl⟩
  refine x_iask C (0 + i0) (nI_clamp (by omega)) (nI_pos (by omega)) (by omega) 1 k54 hw65.symm dX12_broods_35 rfl ?_
  have hW66 : WX (okM E a cd) w64 := by rw [hw65]; exact hW48.set (k := 1) rfl ⟨_, pf63, rfl⟩
  have k67 : w64[1]? = some (iA E (a 1) 382 (upd f2 (0 + i0) r60)) := by rw [hw65]; exact set_eq k54
  have k68 : w64[0]? = some (ob (a 0) 11 [.ref (a 1), .ref (a 2), .ref (a 3), .ref (a 4), .int (nI n5), .int (nI n7), .int (nI n9), .int v11, .int v12, .int v13, .int (nI n14), .int (nI n16), .int (nI n18), .int (nI (cd.2.2.2.2.2)), .ref (a 5), .ref (a 6), .ref (a 7), .ref (a 8), .ref (a 9), .ref (a 10), .ref (a 11), .ref (a 12), .ref (a 13), .ref (a 14), .ref (a 15), .ref (a 16), .ref (a 17), .int (nI n20), .ref (a 18), .ref (a 19), .ref (a 20), .ref (a 21), .int v22, .int v23, .int v24, .int v25, .int (nI n26), .int (nI n28), .ref (a 22), .ref (a 23), .ref (a 24), .ref (a 25), .ref (a 26), .ref (a 27), .ref (a 28), .ref (a 29), .ref (a 30), .int v30]) := by rw [hw65]; exact set_ne k55 (by decide)
  have k69 : w64[17]? = some (iA E (a 17) 11 g41) := by rw [hw65]; exact set_ne k56 (by decide)
  have kp70 := keeps_set kp57 hw65 (by first | exact rfl | decide | omega | (dsimp only; omega))
  refine x_aload_n C dX12_broods_36 rfl 0 rfl rfl ?_
  refine x_get C (ci := 11) (k := 0) 0 k68 rfl in_X12 (by decide) w_1118 rfl dX12_broods_37 rfl ?_
  refine x_sipush C (v := 192) dX12_broods_40 (by decide) rfl ?_
  refine x_iload_n C dX12_broods_43 rfl 1 rfl rfl ?_
  refine x_iadd C (v := (nI (192 + i0))) dX12_broods_44 (nI_add 192 i0) rfl ?_
  refine x_aload_n C dX12_broods_45 rfl 0 rfl rfl ?_
  refine x_get C (ci := 11) (k := 0) 0 k68 rfl in_X12 (by decide) w_1118 rfl dX12_broods_46 rfl ?_
  refine x_sipush C (v := 192) dX12_broods_49 (by decide) rfl ?_
  refine x_iload_n C dX12_broods_52 rfl 1 rfl rfl ?_
  refine x_iadd C (v := (nI (192 + i0))) dX12_broods_53 (nI_add 192 i0) rfl ?_
  refine x_iald C (v := ((upd f2 (0 + i0) r60) (nI (192 + i0)).toNatClampNeg)) 1 k67 (vp_in_nI (by omega) (by decide)) rfl dX12_broods_54 rfl ?_
  refine x_any (fun v71 => ?_)
  refine x_iconst C (v := 1) dX12_broods_55 (by decide) rfl ?_
  refine x_iadd C (v := (v71 + (1 : Int32))) dX12_broods_56 rfl rfl ?_
  refine x_any (fun v72 => ?_)
  have pf73 : NB (upd (upd f2 (0 + i0) r60) (192 + i0) v72) := NB_free pf63 (by unfold bd; omega)
  obtain ⟨w74, hw75⟩ : ∃ w : va_W, w = List.set w64 1 (iA E (a 1) 382 (upd (upd f2 (0 + i0) r60) (192 + i0) v72)) := ⟨_, rfl⟩
  refine x_iask C (192 + i0) (nI_clamp (by omega)) (nI_pos (by omega)) (by omega) 1 k67 hw75.symm dX12_broods_57 rfl ?_
  have hW76 : WX (okM E a cd) w74 := by rw [hw75]; exact hW66.set (k := 1) rfl ⟨_, pf73, rfl⟩
  have k77 : w74[1]? = some (iA E (a 1) 382 (upd (upd f2 (0 + i0) r60) (192 + i0) v72)) := by rw [hw75]; exact set_eq k67
  have k78 : w74[0]? = some (ob (a 0) 11 [.ref (a 1), .ref (a 2), .ref (a 3), .ref (a 4), .int (nI n5), .int (nI n7), .int (nI n9), .int v11, .int v12, .int v13, .int (nI n14), .int (nI n16), .int (nI n18), .int (nI (cd.2.2.2.2.2)), .ref (a 5), .ref (a 6), .ref (a 7), .ref (a 8), .ref (a 9), .ref (a 10), .ref (a 11), .ref (a 12), .ref (a 13), .ref (a 14), .ref (a 15), .ref (a 16), .ref (a 17), .int (nI n20), .ref (a 18), .ref (a 19), .ref (a 20), .ref (a 21), .int v22, .int v23, .int v24, .int v25, .int (nI n26), .int (nI n28), .ref (a 22), .ref (a 23), .ref (a 24), .ref (a 25), .ref (a 26), .ref (a 27), .ref (a 28), .ref (a 29), .ref (a 30), .int v30]) := by rw [hw75]; exact set_ne k68 (by decide)
  have k79 : w74[17]? = some (iA E (a 17) 11 g41) := by rw [hw75]; exact set_ne k69 (by decide)
  have kp80 := keeps_set kp70 hw75 (by first | exact rfl | decide | omega | (dsimp only; omega))
  exact x_vret C hr hlk dX12_broods_58 ⟨hW76, kp80⟩
theorem dX12_lays_0 : decode cX12_lays 0 = .ok (.aload_n 0, 1) := by decide +kernel
theorem dX12_lays_1 : decode cX12_lays 1 = .ok (.invokevirtual 304, 3) := by decide +kernel
theorem dX12_lays_4 : decode cX12_lays 4 = .ok (.istore_n 2, 1) := by decide +kernel
theorem dX12_lays_5 : decode cX12_lays 5 = .ok (.aload_n 0, 1) := by decide +kernel
theorem dX12_lays_6 : decode cX12_lays 6 = .ok (.iload_n 1, 1) := by decide +kernel
theorem dX12_lays_7 : decode cX12_lays 7 = .ok (.iload_n 2, 1) := by decide +kernel
theorem dX12_lays_8 : decode cX12_lays 8 = .ok (.invokevirtual 307, 3) := by decide +kernel
theorem dX12_lays_11 : decode cX12_lays 11 = .ok (.aload_n 0, 1) := by decide +kernel
theorem dX12_lays_12 : decode cX12_lays 12 = .ok (.bipush 108, 2) := by decide +kernel
theorem dX12_lays_14 : decode cX12_lays 14 = .ok (.sipush 240, 3) := by decide +kernel
theorem dX12_lays_17 : decode cX12_lays 17 = .ok (.invokevirtual 240, 3) := by decide +kernel
theorem dX12_lays_20 : decode cX12_lays 20 = .ok (.istore_n 3, 1) := by decide +kernel
theorem dX12_lays_21 : decode cX12_lays 21 = .ok (.aload_n 0, 1) := by decide +kernel
theorem dX12_lays_22 : decode cX12_lays 22 = .ok (.getfield 7, 3) := by decide +kernel
theorem dX12_lays_25 : decode cX12_lays 25 = .ok (.sipush 381, 3) := by decide +kernel
theorem dX12_lays_28 : decode cX12_lays 28 = .ok (.iaload, 1) := by decide +kernel
theorem dX12_lays_29 : decode cX12_lays 29 = .ok (.istore 4, 2) := by decide +kernel
theorem dX12_lays_31 : decode cX12_lays 31 = .ok (.aload_n 0, 1) := by decide +kernel
theorem dX12_lays_32 : decode cX12_lays 32 = .ok (.getfield 7, 3) := by decide +kernel
theorem dX12_lays_35 : decode cX12_lays 35 = .ok (.iconst 0, 1) := by decide +kernel
theorem dX12_lays_36 : decode cX12_lays 36 = .ok (.iload 4, 2) := by decide +kernel
theorem dX12_lays_38 : decode cX12_lays 38 = .ok (.iadd, 1) := by decide +kernel
theorem dX12_lays_39 : decode cX12_lays 39 = .ok (.iload_n 3, 1) := by decide +kernel
theorem dX12_lays_40 : decode cX12_lays 40 = .ok (.iastore, 1) := by decide +kernel
theorem dX12_lays_41 : decode cX12_lays 41 = .ok (.aload_n 0, 1) := by decide +kernel
theorem dX12_lays_42 : decode cX12_lays 42 = .ok (.getfield 7, 3) := by decide +kernel
theorem dX12_lays_45 : decode cX12_lays 45 = .ok (.bipush 48, 2) := by decide +kernel
theorem dX12_lays_47 : decode cX12_lays 47 = .ok (.iload 4, 2) := by decide +kernel
theorem dX12_lays_49 : decode cX12_lays 49 = .ok (.iadd, 1) := by decide +kernel
theorem dX12_lays_50 : decode cX12_lays 50 = .ok (.aload_n 0, 1) := by decide +kernel
theorem dX12_lays_51 : decode cX12_lays 51 = .ok (.getfield 7, 3) := by decide +kernel
theorem dX12_lays_54 : decode cX12_lays 54 = .ok (.sipush 379, 3) := by decide +kernel
theorem dX12_lays_57 : decode cX12_lays 57 = .ok (.iaload, 1) := by decide +kernel
theorem dX12_lays_58 : decode cX12_lays 58 = .ok (.iastore, 1) := by decide +kernel
theorem dX12_lays_59 : decode cX12_lays 59 = .ok (.aload_n 0, 1) := by decide +kernel
theorem dX12_lays_60 : decode cX12_lays 60 = .ok (.getfield 7, 3) := by decide +kernel
theorem dX12_lays_63 : decode cX12_lays 63 = .ok (.bipush 96, 2) := by decide +kernel
theorem dX12_lays_65 : decode cX12_lays 65 = .ok (.iload 4, 2) := by decide +kernel
theorem dX12_lays_67 : decode cX12_lays 67 = .ok (.iadd, 1) := by decide +kernel
theorem dX12_lays_68 : decode cX12_lays 68 = .ok (.iload_n 1, 1) := by decide +kernel
theorem dX12_lays_69 : decode cX12_lays 69 = .ok (.iastore, 1) := by decide +kernel
theorem dX12_lays_70 : decode cX12_lays 70 = .ok (.aload_n 0, 1) := by decide +kernel
theorem dX12_lays_71 : decode cX12_lays 71 = .ok (.getfield 7, 3) := by decide +kernel
theorem dX12_lays_74 : decode cX12_lays 74 = .ok (.sipush 144, 3) := by decide +kernel
theorem dX12_lays_77 : decode cX12_lays 77 = .ok (.iload 4, 2) := by decide +kernel
theorem dX12_lays_79 : decode cX12_lays 79 = .ok (.iadd, 1) := by decide +kernel
theorem dX12_lays_80 : decode cX12_lays 80 = .ok (.aload_n 0, 1) := by decide +kernel
theorem dX12_lays_81 : decode cX12_lays 81 = .ok (.getfield 7, 3) := by decide +kernel
theorem dX12_lays_84 : decode cX12_lays 84 = .ok (.sipush 329, 3) := by decide +kernel
theorem dX12_lays_87 : decode cX12_lays 87 = .ok (.iload_n 1, 1) := by decide +kernel
theorem dX12_lays_88 : decode cX12_lays 88 = .ok (.iadd, 1) := by decide +kernel
theorem dX12_lays_89 : decode cX12_lays 89 = .ok (.iaload, 1) := by decide +kernel
theorem dX12_lays_90 : decode cX12_lays 90 = .ok (.iastore, 1) := by decide +kernel
theorem dX12_lays_91 : decode cX12_lays 91 = .ok (.aload_n 0, 1) := by decide +kernel
theorem dX12_lays_92 : decode cX12_lays 92 = .ok (.getfield 7, 3) := by decide +kernel
theorem dX12_lays_95 : decode cX12_lays 95 = .ok (.sipush 192, 3) := by decide +kernel
theorem dX12_lays_98 : decode cX12_lays 98 = .ok (.iload 4, 2) := by decide +kernel
theorem dX12_lays_100 : decode cX12_lays 100 = .ok (.iadd, 1) := by decide +kernel
theorem dX12_lays_101 : decode cX12_lays 101 = .ok (.iconst 0, 1) := by decide +kernel
theorem dX12_lays_102 : decode cX12_lays 102 = .ok (.iastore, 1) := by decide +kernel
theorem dX12_lays_103 : decode cX12_lays 103 = .ok (.aload_n 0, 1) := by decide +kernel
theorem dX12_lays_104 : decode cX12_lays 104 = .ok (.getfield 7, 3) := by decide +kernel
theorem dX12_lays_107 : decode cX12_lays 107 = .ok (.sipush 240, 3) := by decide +kernel
theorem dX12_lays_110 : decode cX12_lays 110 = .ok (.iload 4, 2) := by decide +kernel
theorem dX12_lays_112 : decode cX12_lays 112 = .ok (.iadd, 1) := by decide +kernel
theorem dX12_lays_113 : decode cX12_lays 113 = .ok (.iconst 0, 1) := by decide +kernel
theorem dX12_lays_114 : decode cX12_lays 114 = .ok (.iastore, 1) := by decide +kernel
theorem dX12_lays_115 : decode cX12_lays 115 = .ok (.aload_n 0, 1) := by decide +kernel
theorem dX12_lays_116 : decode cX12_lays 116 = .ok (.getfield 7, 3) := by decide +kernel
theorem dX12_lays_119 : decode cX12_lays 119 = .ok (.sipush 381, 3) := by decide +kernel
theorem dX12_lays_122 : decode cX12_lays 122 = .ok (.iload 4, 2) := by decide +kernel
theorem dX12_lays_124 : decode cX12_lays 124 = .ok (.iconst 1, 1) := by decide +kernel
theorem dX12_lays_125 : decode cX12_lays 125 = .ok (.iadd, 1) := by decide +kernel
theorem dX12_lays_126 : decode cX12_lays 126 = .ok (.iastore, 1) := by decide +kernel
theorem dX12_lays_127 : decode cX12_lays 127 = .ok (.aload_n 0, 1) := by decide +kernel
theorem dX12_lays_128 : decode cX12_lays 128 = .ok (.getfield 7, 3) := by decide +kernel
theorem dX12_lays_131 : decode cX12_lays 131 = .ok (.sipush 296, 3) := by decide +kernel
theorem dX12_lays_134 : decode cX12_lays 134 = .ok (.aload_n 0, 1) := by decide +kernel
theorem dX12_lays_135 : decode cX12_lays 135 = .ok (.getfield 7, 3) := by decide +kernel
theorem dX12_lays_138 : decode cX12_lays 138 = .ok (.sipush 329, 3) := by decide +kernel
theorem dX12_lays_141 : decode cX12_lays 141 = .ok (.iload_n 1, 1) := by decide +kernel
theorem dX12_lays_142 : decode cX12_lays 142 = .ok (.iadd, 1) := by decide +kernel
theorem dX12_lays_143 : decode cX12_lays 143 = .ok (.iaload, 1) := by decide +kernel
theorem dX12_lays_144 : decode cX12_lays 144 = .ok (.iadd, 1) := by decide +kernel
theorem dX12_lays_145 : decode cX12_lays 145 = .ok (.aload_n 0, 1) := by decide +kernel
theorem dX12_lays_146 : decode cX12_lays 146 = .ok (.getfield 7, 3) := by decide +kernel
theorem dX12_lays_149 : decode cX12_lays 149 = .ok (.sipush 296, 3) := by decide +kernel
theorem dX12_lays_152 : decode cX12_lays 152 = .ok (.aload_n 0, 1) := by decide +kernel
theorem dX12_lays_153 : decode cX12_lays 153 = .ok (.getfield 7, 3) := by decide +kernel
theorem dX12_lays_156 : decode cX12_lays 156 = .ok (.sipush 329, 3) := by decide +kernel
theorem dX12_lays_159 : decode cX12_lays 159 = .ok (.iload_n 1, 1) := by decide +kernel
theorem dX12_lays_160 : decode cX12_lays 160 = .ok (.iadd, 1) := by decide +kernel
theorem dX12_lays_161 : decode cX12_lays 161 = .ok (.iaload, 1) := by decide +kernel
theorem dX12_lays_162 : decode cX12_lays 162 = .ok (.iadd, 1) := by decide +kernel
theorem dX12_lays_163 : decode cX12_lays 163 = .ok (.iaload, 1) := by decide +kernel
theorem dX12_lays_164 : decode cX12_lays 164 = .ok (.iload_n 3, 1) := by decide +kernel
theorem dX12_lays_165 : decode cX12_lays 165 = .ok (.iadd, 1) := by decide +kernel
theorem dX12_lays_166 : decode cX12_lays 166 = .ok (.iastore, 1) := by decide +kernel
theorem dX12_lays_167 : decode cX12_lays 167 = .ok (.aload_n 0, 1) := by decide +kernel
theorem dX12_lays_168 : decode cX12_lays 168 = .ok (.aload_n 0, 1) := by decide +kernel
theorem dX12_lays_169 : decode cX12_lays 169 = .ok (.getfield 310, 3) := by decide +kernel
theorem dX12_lays_172 : decode cX12_lays 172 = .ok (.iconst 1, 1) := by decide +kernel
theorem dX12_lays_173 : decode cX12_lays 173 = .ok (.iadd, 1) := by decide +kernel
theorem dX12_lays_174 : decode cX12_lays 174 = .ok (.putfield 310, 3) := by decide +kernel
theorem dX12_lays_177 : decode cX12_lays 177 = .ok (.aload_n 0, 1) := by decide +kernel
theorem dX12_lays_178 : decode cX12_lays 178 = .ok (.aload_n 0, 1) := by decide +kernel
theorem dX12_lays_179 : decode cX12_lays 179 = .ok (.getfield 313, 3) := by decide +kernel
theorem dX12_lays_182 : decode cX12_lays 182 = .ok (.iload_n 3, 1) := by decide +kernel
theorem dX12_lays_183 : decode cX12_lays 183 = .ok (.iadd, 1) := by decide +kernel
theorem dX12_lays_184 : decode cX12_lays 184 = .ok (.putfield 313, 3) := by decide +kernel
theorem dX12_lays_187 : decode cX12_lays 187 = .ok (.return_, 1) := by decide +kernel
set_option maxRecDepth 20000 in
set_option maxHeartbeats 4000000 in
theorem m_lays (E : xE) (l : Launch) (a : Nat → Nat) (cd : Cd) (hG : Good cd) (ws : va_W) (hW : WX (okM E a cd) ws) (y0 : Nat) (hy0 : y0 ≤ 7) (fn : Nat → Int32) (hfn : ws[1]? = some (iA E (a 1) 382 fn)) (m0 : Nat) (hml : m0 < 48) (hm0 : fn 381 = nI m0) : xV E l yX12_lays cX12_lays 5 3 0 0 [.ref (a 0), .int (nI y0)] ws (fun w => WX (okM E a cd) w ∧ keeps ws w (fun q => q = 0 ∨ q = 1 ∨ q = 16 ∨ q = 17) ∧ (dyK E a ws w)) := by
  refine xV_start (lv := [(0, .ref (a 0)), (1, .int (nI y0))]) RX12 (by decide) rfl (Nat.le_of_ble_eq_true rfl) rfl (fun p e s m below meth c A C hr hlk hin => ?_)
  have kp0 : keeps ws ws (fun q => q = 0 ∨ q = 1 ∨ q = 16 ∨ q = 17) := keeps_rf
  obtain ⟨_, kq1, fq, pfq, rfl⟩ := hW 1 _ rfl
  obtain rfl := iA_inj (hfn.symm.trans kq1)
  refine x_aload_n C dX12_lays_0 rfl 0 rfl rfl ?_
  obtain ⟨_, k1, n2, n4, n6, v8, v9, v10, n11, n13, n15, n17, v19, v20, v21, v22, n23, n25, v27, bn3, bn5, bn7, bn12, bn14, bn16, bn18, bn24, bn26, zv28, rfl⟩ := hW 0 _ rfl
  refine x_vi C (As := []) (rest := []) (m_draws E l a cd hG ws hW) mf_X12_draws w_1505 0 k1 rfl rfl rfl (Nat.le_of_ble_eq_true rfl) ⟨(Nat.le_of_ble_eq_true rfl), (Nat.le_of_ble_eq_true rfl)⟩ ⟨(Nat.le_of_ble_eq_true rfl), (Nat.le_of_ble_eq_true rfl)⟩ dX12_lays_1 rfl (fun r30 w31 h29 => ?_)
  obtain ⟨hW32, kq33, x34⟩ := h29
  have k35 : w31[0]? = some (ob (a 0) 11 [.ref (a 1), .ref (a 2), .ref (a 3), .ref (a 4), .int (nI n2), .int (nI n4), .int (nI n6), .int v8, .int v9, .int v10, .int (nI n11), .int (nI n13), .int (nI n15), .int (nI (cd.2.2.2.2.2)), .ref (a 5), .ref (a 6), .ref (a 7), .ref (a 8), .ref (a 9), .ref (a 10), .ref (a 11), .ref (a 12), .ref (a 13), .ref (a 14), .ref (a 15), .ref (a 16), .ref (a 17), .int (nI n17), .ref (a 18), .ref (a 19), .ref (a 20), .ref (a 21), .int v19, .int v20, .int v21, .int v22, .int (nI n23), .int (nI n25), .ref (a 22), .ref (a 23), .ref (a 24), .ref (a 25), .ref (a 26), .ref (a 27), .ref (a 28), .ref (a 29), .ref (a 30), .int v27]) := keeps_at kq33 k1 (by first | decide | omega | (dsimp only; omega))
  have kp36 := keeps_tr kp0 kq33 (fun q hq => by first | omega | (dsimp only at *; omega))
  obtain ⟨v37, k38⟩ := x34 _ hfn
  have pf39 : NB (upd fn 380 v37) := NB_free pfq (by unfold bd; omega)
  refine x_istore_n C (lv' := [(2, .int r30), (0, .ref (a 0)), (1, .int (nI y0))]) dX12_lays_4 rfl (by decide) rfl rfl ?_
  refine x_aload_n C dX12_lays_5 rfl 1 rfl rfl ?_
  refine x_iload_n C dX12_lays_6 rfl 2 rfl rfl ?_
  refine x_iload_n C dX12_lays_7 rfl 0 rfl rfl ?_
  refine x_vv C (As := [.int (nI y0), .int r30]) (rest := []) (m_feelsHen E l a cd hG w31 hW32 y0 r30 (by omega) ((upd fn 380 v37)) k38) mf_X12_feelsHen w_1510 0 k35 rfl rfl rfl (Nat.le_of_ble_eq_true rfl) ⟨(Nat.le_of_ble_eq_true rfl), (Nat.le_of_ble_eq_true rfl)⟩ ⟨(Nat.le_of_ble_eq_true rfl), (Nat.le_of_ble_eq_true rfl)⟩ dX12_lays_8 rfl (fun w42 h40 => ?_)
  obtain ⟨hW43, kq44, x45⟩ := h40
  have k46 : w42[0]? = some (ob (a 0) 11 [.ref (a 1), .ref (a 2), .ref (a 3), .ref (a 4), .int (nI n2), .int (nI n4), .int (nI n6), .int v8, .int v9, .int v10, .int (nI n11), .int (nI n13), .int (nI n15), .int (nI (cd.2.2.2.2.2)), .ref (a 5), .ref (a 6), .ref (a 7), .ref (a 8), .ref (a 9), .ref (a 10), .ref (a 11), .ref (a 12), .ref (a 13), .ref (a 14), .ref (a 15), .ref (a 16), .ref (a 17), .int (nI n17), .ref (a 18), .ref (a 19), .ref (a 20), .ref (a 21), .int v19, .int v20, .int v21, .int v22, .int (nI n23), .int (nI n25), .ref (a 22), .ref (a 23), .ref (a 24), .ref (a 25), .ref (a 26), .ref (a 27), .ref (a 28), .ref (a 29), .ref (a 30), .int v27]) := keeps_at kq44 k35 (by first | decide | omega | (dsimp only; omega))
  have k47 : w42[1]? = some (iA E (a 1) 382 (upd fn 380 v37)) := keeps_at kq44 k38 (by first | decide | omega | (dsimp only; omega))
  have kp48 := keeps_tr kp36 kq44 (fun q hq => by first | omega | (dsimp only at *; omega))
  obtain ⟨g49, k50, ecl51⟩ := x45
  refine x_aload_n C dX12_lays_11 rfl 1 rfl rfl ?_
  refine x_bipush C (v := 108) dX12_lays_12 (by decide) rfl ?_
  refine x_sipush C (v := 240) dX12_lays_14 (by decide) rfl ?_
  refine x_vi C (As := [.int 108, .int 240]) (rest := []) (m_byLaw E l a cd hG w42 hW43 (108 : Int32) 240 (by omega) g49 k50) mf_X12_byLaw w_1463 0 k46 rfl rfl rfl (Nat.le_of_ble_eq_true rfl) ⟨(Nat.le_of_ble_eq_true rfl), (Nat.le_of_ble_eq_true rfl)⟩ ⟨(Nat.le_of_ble_eq_true rfl), (Nat.le_of_ble_eq_true rfl)⟩ dX12_lays_17 rfl (fun r53 w54 h52 => ?_)
  obtain ⟨hW55, kq56, ⟨m58, bm59, e57⟩, x60⟩ := h52
  refine x_top e57 ?_
  have k61 : w54[0]? = some (ob (a 0) 11 [.ref (a 1), .ref (a 2), .ref (a 3), .ref (a 4), .int (nI n2), .int (nI n4), .int (nI n6), .int v8, .int v9, .int v10, .int (nI n11), .int (nI n13), .int (nI n15), .int (nI (cd.2.2.2.2.2)), .ref (a 5), .ref (a 6), .ref (a 7), .ref (a 8), .ref (a 9), .ref (a 10), .ref (a 11), .ref (a 12), .ref (a 13), .ref (a 14), .ref (a 15), .ref (a 16), .ref (a 17), .int (nI n17), .ref (a 18), .ref (a 19), .ref (a 20), .ref (a 21), .int v19, .int v20, .int v21, .int v22, .int (nI n23), .int (nI n25), .ref (a 22), .ref (a 23), .ref (a 24), .ref (a 25), .ref (a 26), .ref (a 27), .ref (a 28), .ref (a 29), .ref (a 30), .int v27]) := keeps_at kq56 k46 (by first | decide | omega | (dsimp only; omega))
  have k62 : w54[1]? = some (iA E (a 1) 382 (upd fn 380 v37)) := keeps_at kq56 k47 (by first | decide | omega | (dsimp only; omega))
  have k63 : w54[17]? = some (iA E (a 17) 11 g49) := keeps_at kq56 k50 (by first | decide | omega | (dsimp only; omega))
  have kp64 := keeps_tr kp48 kq56 (fun q hq => by first | omega | (dsimp only at *; omega))
  refine x_istore_n C (lv' := [(3, .int (nI m58)), (2, .int r30), (0, .ref (a 0)), (1, .int (nI y0))]) dX12_lays_20 rfl (by decide) rfl rfl ?_
  refine x_aload_n C dX12_lays_21 rfl 2 rfl rfl ?_
  refine x_get C (ci := 11) (k := 0) 0 k61 rfl in_X12 (by decide) w_1118 rfl dX12_lays_22 rfl ?_
  refine x_sipush C (v := 381) dX12_lays_25 (by decide) rfl ?_
  refine x_ialk C (v := ((upd fn 380 v37) 381)) 381 (by decide) (by decide) (by decide) 1 k62 rfl dX12_lays_28 rfl ?_
  refine x_top (show (upd fn 380 v37) 381 = nI m0 from by (repeat rw [pk_un (by omega)]); exact hm0) ?_
  refine x_istore C (lv' := [(4, .int (nI m0)), (3, .int (nI m58)), (2, .int r30), (0, .ref (a 0)), (1, .int (nI y0))]) dX12_lays_29 (by decide) rfl rfl ?_
  refine x_aload_n C dX12_lays_31 rfl 3 rfl rfl ?_
  refine x_get C (ci := 11) (k := 0) 0 k61 rfl in_X12 (by decide) w_1118 rfl dX12_lays_32 rfl ?_
  refine x_iconst C (v := 0) dX12_lays_35 (by decide) rfl ?_
  refine x_iload C dX12_lays_36 0 rfl rfl ?_
  refine x_iadd C (v := (nI (0 + m0))) dX12_lays_38 (nI_add 0 m0) rfl ?_
  refine x_iload_n C dX12_lays_39 rfl 1 rfl rfl ?_
  have pf65 : NB (upd (upd fn 380 v37) (0 + m0) (nI m58)) := NB_free pf39 (by unfold bd; omega)
  obtain ⟨w66, hw67⟩ : ∃ w : va_W, w = List.set w54 1 (iA E (a 1) 382 (upd (upd fn 380 v37) (0 + m0) (nI m58))) := ⟨_, rfl⟩
  refine x_iask C (0 + m0) (nI_clamp (by omega)) (nI_pos (by omega)) (by omega) 1 k62 hw67.symm dX12_lays_40 rfl ?_
  have hW68 : WX (okM E a cd) w66 := by rw [hw67]; exact hW55.set (k := 1) rfl ⟨_, pf65, rfl⟩
  have k69 : w66[0]? = some (ob (a 0) 11 [.ref (a 1), .ref (a 2), .ref (a 3), .ref (a 4), .int (nI n2), .int (nI n4), .int (nI n6), .int v8, .int v9, .int v10, .int (nI n11), .int (nI n13), .int (nI n15), .int (nI (cd.2.2.2.2.2)), .ref (a 5), .ref (a 6), .ref (a 7), .ref (a 8), .ref (a 9), .ref (a 10), .ref (a 11), .ref (a 12), .ref (a 13), .ref (a 14), .ref (a 15), .ref (a 16), .ref (a 17), .int (nI n17), .ref (a 18), .ref (a 19), .ref (a 20), .ref (a 21), .int v19, .int v20, .int v21, .int v22, .int (nI n23), .int (nI n25), .ref (a 22), .ref (a 23), .ref (a 24), .ref (a 25), .ref (a 26), .ref (a 27), .ref (a 28), .ref (a 29), .ref (a 30), .int v27]) := by rw [hw67]; exact set_ne k61 (by decide)
  have k70 : w66[1]? = some (iA E (a 1) 382 (upd (upd fn 380 v37) (0 + m0) (nI m58))) := by rw [hw67]; exact set_eq k62
  have k71 : w66[17]? = some (iA E (a 17) 11 g49) := by rw [hw67]; exact set_ne k63 (by decide)
  have kp72 := keeps_set kp64 hw67 (by first | exact rfl | decide | omega | (dsimp only; omega))
  refine x_aload_n C dX12_lays_41 rfl 3 rfl rfl ?_
  refine x_get C (ci := 11) (k := 0) 0 k69 rfl in_X12 (by decide) w_1118 rfl dX12_lays_42 rfl ?_
  refine x_bipush C (v := 48) dX12_lays_45 (by decide) rfl ?_
  refine x_iload C dX12_lays_47 0 rfl rfl ?_
  refine x_iadd C (v := (nI (48 + m0))) dX12_lays_49 (nI_add 48 m0) rfl ?_
  refine x_aload_n C dX12_lays_50 rfl 3 rfl rfl ?_
  refine x_get C (ci := 11) (k := 0) 0 k69 rfl in_X12 (by decide) w_1118 rfl dX12_lays_51 rfl ?_
  refine x_sipush C (v := 379) dX12_lays_54 (by decide) rfl ?_
  obtain ⟨n73, hn74, en75⟩ := NB_day pf65
  refine x_ialk C (v := nI n73) 379 (by decide) (by decide) (by decide) 1 k70 en75 dX12_lays_57 rfl ?_
  have pf76 : NB (upd (upd (upd fn 380 v37) (0 + m0) (nI m58)) (48 + m0) (nI n73)) := NB_put_lo (j := m0) pf65 (by omega) (by omega)
  obtain ⟨w77, hw78⟩ : ∃ w : va_W, w = List.set w66 1 (iA E (a 1) 382 (upd (upd (upd fn 380 v37) (0 + m0) (nI m58)) (48 + m0) (nI n73))) := ⟨_, rfl⟩
  refine x_iask C (48 + m0) (nI_clamp (by omega)) (nI_pos (by omega)) (by omega) 1 k70 hw78.symm dX12_lays_58 rfl ?_
  have hW79 : WX (okM E a cd) w77 := by rw [hw78]; exact hW68.set (k := 1) rfl ⟨_, pf76, rfl⟩
  have k80 : w77[0]? = some (ob (a 0) 11 [.ref (a 1), .ref (a 2), .ref (a 3), .ref (a 4), .int (nI n2), .int (nI n4), .int (nI n6), .int v8, .int v9, .int v10, .int (nI n11), .int (nI n13), .int (nI n15), .int (nI (cd.2.2.2.2.2)), .ref (a 5), .ref (a 6), .ref (a 7), .ref (a 8), .ref (a 9), .ref (a 10), .ref (a 11), .ref (a 12), .ref (a 13), .ref (a 14), .ref (a 15), .ref (a 16), .ref (a 17), .int (nI n17), .ref (a 18), .ref (a 19), .ref (a 20), .ref (a 21), .int v19, .int v20, .int v21, .int v22, .int (nI n23), .int (nI n25), .ref (a 22), .ref (a 23), .ref (a 24), .ref (a 25), .ref (a 26), .ref (a 27), .ref (a 28), .ref (a 29), .ref (a 30), .int v27]) := by rw [hw78]; exact set_ne k69 (by decide)
  have k81 : w77[1]? = some (iA E (a 1) 382 (upd (upd (upd fn 380 v37) (0 + m0) (nI m58)) (48 + m0) (nI n73))) := by rw [hw78]; exact set_eq k70
  have k82 : w77[17]? = some (iA E (a 17) 11 g49) := by rw [hw78]; exact set_ne k71 (by decide)
  have kp83 := keeps_set kp72 hw78 (by first | exact rfl | decide | omega | (dsimp only; omega))
  refine x_aload_n C dX12_lays_59 rfl 3 rfl rfl ?_
  refine x_get C (ci := 11) (k := 0) 0 k80 rfl in_X12 (by decide) w_1118 rfl dX12_lays_60 rfl ?_
  refine x_bipush C (v := 96) dX12_lays_63 (by decide) rfl ?_
  refine x_iload C dX12_lays_65 0 rfl rfl ?_
  refine x_iadd C (v := (nI (96 + m0))) dX12_lays_67 (nI_add 96 m0) rfl ?_
  refine x_iload_n C dX12_lays_68 rfl 4 rfl rfl ?_
  have pf84 : NB (upd (upd (upd (upd fn 380 v37) (0 + m0) (nI m58)) (48 + m0) (nI n73)) (96 + m0) (nI y0)) := NB_put_hen (j := m0) pf76 (by omega) (by omega)
  obtain ⟨w85, hw86⟩ : ∃ w : va_W, w = List.set w77 1 (iA E (a 1) 382 (upd (upd (upd (upd fn 380 v37) (0 + m0) (nI m58)) (48 + m0) (nI n73)) (96 + m0) (nI y0))) := ⟨_, rfl⟩
  refine x_iask C (96 + m0) (nI_clamp (by omega)) (nI_pos (by omega)) (by omega) 1 k81 hw86.symm dX12_lays_69 rfl ?_
  have hW87 : WX (okM E a cd) w85 := by rw [hw86]; exact hW79.set (k := 1) rfl ⟨_, pf84, rfl⟩
  have k88 : w85[0]? = some (ob (a 0) 11 [.ref (a 1), .ref (a 2), .ref (a 3), .ref (a 4), .int (nI n2), .int (nI n4), .int (nI n6), .int v8, .int v9, .int v10, .int (nI n11), .int (nI n13), .int (nI n15), .int (nI (cd.2.2.2.2.2)), .ref (a 5), .ref (a 6), .ref (a 7), .ref (a 8), .ref (a 9), .ref (a 10), .ref (a 11), .ref (a 12), .ref (a 13), .ref (a 14), .ref (a 15), .ref (a 16), .ref (a 17), .int (nI n17), .ref (a 18), .ref (a 19), .ref (a 20), .ref (a 21), .int v19, .int v20, .int v21, .int v22, .int (nI n23), .int (nI n25), .ref (a 22), .ref (a 23), .ref (a 24), .ref (a 25), .ref (a 26), .ref (a 27), .ref (a 28), .ref (a 29), .ref (a 30), .int v27]) := by rw [hw86]; exact set_ne k80 (by decide)
  have k89 : w85[1]? = some (iA E (a 1) 382 (upd (upd (upd (upd fn 380 v37) (0 + m0) (nI m58)) (48 + m0) (nI n73)) (96 + m0) (nI y0))) := by rw [hw86]; exact set_eq k81
  have k90 : w85[17]? = some (iA E (a 17) 11 g49) := by rw [hw86]; exact set_ne k82 (by decide)
  have kp91 := keeps_set kp83 hw86 (by first | exact rfl | decide | omega | (dsimp only; omega))
  refine x_aload_n C dX12_lays_70 rfl 3 rfl rfl ?_
  refine x_get C (ci := 11) (k := 0) 0 k88 rfl in_X12 (by decide) w_1118 rfl dX12_lays_71 rfl ?_
  refine x_sipush C (v := 144) dX12_lays_74 (by decide) rfl ?_
  refine x_iload C dX12_lays_77 0 rfl rfl ?_
  refine x_iadd C (v := (nI (144 + m0))) dX12_lays_79 (nI_add 144 m0) rfl ?_
  refine x_aload_n C dX12_lays_80 rfl 3 rfl rfl ?_
  refine x_get C (ci := 11) (k := 0) 0 k88 rfl in_X12 (by decide) w_1118 rfl dX12_lays_81 rfl ?_
  refine x_sipush C (v := 329) dX12_lays_84 (by decide) rfl ?_
  refine x_iload_n C dX12_lays_87 rfl 4 rfl rfl ?_
  refine x_iadd C (v := (nI (329 + y0))) dX12_lays_88 (nI_add 329 y0) rfl ?_
  obtain ⟨n92, hn93, en94⟩ := NB_kp (j := y0) pf84 (by omega)
  refine x_ialk C (v := nI n92) (329 + y0) (nI_clamp (by omega)) (nI_pos (by omega)) (by omega) 1 k89 en94 dX12_lays_89 rfl ?_
  have pf95 : NB (upd (upd (upd (upd (upd fn 380 v37) (0 + m0) (nI m58)) (48 + m0) (nI n73)) (96 + m0) (nI y0)) (144 + m0) (nI n92)) := NB_put_own (j := m0) pf84 (by omega) (by omega)
  obtain ⟨w96, hw97⟩ : ∃ w : va_W, w = List.set w85 1 (iA E (a 1) 382 (upd (upd (upd (upd (upd fn 380 v37) (0 + m0) (nI m58)) (48 + m0) (nI n73)) (96 + m0) (nI y0)) (144 + m0) (nI n92))) := ⟨_, rfl⟩
  refine x_iask C (144 + m0) (nI_clamp (by omega)) (nI_pos (by omega)) (by omega) 1 k89 hw97.symm dX12_lays_90 rfl ?_
  have hW98 : WX (okM E a cd) w96 := by rw [hw97]; exact hW87.set (k := 1) rfl ⟨_, pf95, rfl⟩
  have k99 : w96[0]? = some (ob (a 0) 11 [.ref (a 1), .ref (a 2), .ref (a 3), .ref (a 4), .int (nI n2), .int (nI n4), .int (nI n6), .int v8, .int v9, .int v10, .int (nI n11), .int (nI n13), .int (nI n15), .int (nI (cd.2.2.2.2.2)), .ref (a 5), .ref (a 6), .ref (a 7), .ref (a 8), .ref (a 9), .ref (a 10), .ref (a 11), .ref (a 12), .ref (a 13), .ref (a 14), .ref (a 15), .ref (a 16), .ref (a 17), .int (nI n17), .ref (a 18), .ref (a 19), .ref (a 20), .ref (a 21), .int v19, .int v20, .int v21, .int v22, .int (nI n23), .int (nI n25), .ref (a 22), .ref (a 23), .ref (a 24), .ref (a 25), .ref (a 26), .ref (a 27), .ref (a 28), .ref (a 29), .ref (a 30), .int v27]) := by rw [hw97]; exact set_ne k88 (by decide)
  have k100 : w96[1]? = some (iA E (a 1) 382 (upd (upd (upd (upd (upd fn 380 v37) (0 + m0) (nI m58)) (48 + m0) (nI n73)) (96 + m0) (nI y0)) (144 + m0) (nI n92))) := by rw [hw97]; exact set_eq k89
  have k101 : w96[17]? = some (iA E (a 17) 11 g49) := by rw [hw97]; exact set_ne k90 (by decide)
  have kp102 := keeps_set kp91 hw97 (by first | exact rfl | decide | omega | (dsimp only; omega))
  refine x_aload_n C dX12_lays_91 rfl 3 rfl rfl ?_
  refine x_get C (ci := 11) (k := 0) 0 k99 rfl in_X12 (by decide) w_1118 rfl dX12_lays_92 rfl ?_
  refine x_sipush C (v := 192) dX12_lays_95 (by decide) rfl ?_
  refine x_iload C dX12_lays_98 0 rfl rfl ?_
  refine x_iadd C (v := (nI (192 + m0))) dX12_lays_100 (nI_add 192 m0) rfl ?_
  refine x_iconst C (v := 0) dX12_lays_101 (by decide) rfl ?_
  have pf103 : NB (upd (upd (upd (upd (upd (upd fn 380 v37) (0 + m0) (nI m58)) (48 + m0) (nI n73)) (96 + m0) (nI y0)) (144 + m0) (nI n92)) (192 + m0) (0 : Int32)) := NB_free pf95 (by unfold bd; omega)
  obtain ⟨w104, hw105⟩ : ∃ w : va_W, w = List.set w96 1 (iA E (a 1) 382 (upd (upd (upd (upd (upd (upd fn 380 v37) (0 + m0) (nI m58)) (48 + m0) (nI n73)) (96 + m0) (nI y0)) (144 + m0) (nI n92)) (192 + m0) (0 : Int32))) := ⟨_, rfl⟩
  refine x_iask C (192 + m0) (nI_clamp (by omega)) (nI_pos (by omega)) (by omega) 1 k100 hw105.symm dX12_lays_102 rfl ?_
  have hW106 : WX (okM E a cd) w104 := by rw [hw105]; exact hW98.set (k := 1) rfl ⟨_, pf103, rfl⟩
  have k107 : w104[0]? = some (ob (a 0) 11 [.ref (a 1), .ref (a 2), .ref (a 3), .ref (a 4), .int (nI n2), .int (nI n4), .int (nI n6), .int v8, .int v9, .int v10, .int (nI n11), .int (nI n13), .int (nI n15), .int (nI (cd.2.2.2.2.2)), .ref (a 5), .ref (a 6), .ref (a 7), .ref (a 8), .ref (a 9), .ref (a 10), .ref (a 11), .ref (a 12), .ref (a 13), .ref (a 14), .ref (a 15), .ref (a 16), .ref (a 17), .int (nI n17), .ref (a 18), .ref (a 19), .ref (a 20), .ref (a 21), .int v19, .int v20, .int v21, .int v22, .int (nI n23), .int (nI n25), .ref (a 22), .ref (a 23), .ref (a 24), .ref (a 25), .ref (a 26), .ref (a 27), .ref (a 28), .ref (a 29), .ref (a 30), .int v27]) := by rw [hw105]; exact set_ne k99 (by decide)
  have k108 : w104[1]? = some (iA E (a 1) 382 (upd (upd (upd (upd (upd (upd fn 380 v37) (0 + m0) (nI m58)) (48 + m0) (nI n73)) (96 + m0) (nI y0)) (144 + m0) (nI n92)) (192 + m0) (0 : Int32))) := by rw [hw105]; exact set_eq k100
  have k109 : w104[17]? = some (iA E (a 17) 11 g49) := by rw [hw105]; exact set_ne k101 (by decide)
  have kp110 := keeps_set kp102 hw105 (by first | exact rfl | decide | omega | (dsimp only; omega))
  refine x_aload_n C dX12_lays_103 rfl 3 rfl rfl ?_
  refine x_get C (ci := 11) (k := 0) 0 k107 rfl in_X12 (by decide) w_1118 rfl dX12_lays_104 rfl ?_
  refine x_sipush C (v := 240) dX12_lays_107 (by decide) rfl ?_
  refine x_iload C dX12_lays_110 0 rfl rfl ?_
  refine x_iadd C (v := (nI (240 + m0))) dX12_lays_112 (nI_add 240 m0) rfl ?_
  refine x_iconst C (v := 0) dX12_lays_113 (by decide) rfl ?_
  have pf111 : NB (upd (upd (upd (upd (upd (upd (upd fn 380 v37) (0 + m0) (nI m58)) (48 + m0) (nI n73)) (96 + m0) (nI y0)) (144 + m0) (nI n92)) (192 + m0) (0 : Int32)) (240 + m0) (0 : Int32)) := NB_free pf103 (by unfold bd; omega)
  obtain ⟨w112, hw113⟩ : ∃ w : va_W, w = List.set w104 1 (iA E (a 1) 382 (upd (upd (upd (upd (upd (upd (upd fn 380 v37) (0 + m0) (nI m58)) (48 + m0) (nI n73)) (96 + m0) (nI y0)) (144 + m0) (nI n92)) (192 + m0) (0 : Int32)) (240 + m0) (0 : Int32))) := ⟨_, rfl⟩
  refine x_iask C (240 + m0) (nI_clamp (by omega)) (nI_pos (by omega)) (by omega) 1 k108 hw113.symm dX12_lays_114 rfl ?_
  have hW114 : WX (okM E a cd) w112 := by rw [hw113]; exact hW106.set (k := 1) rfl ⟨_, pf111, rfl⟩
  have k115 : w112[0]? = some (ob (a 0) 11 [.ref (a 1), .ref (a 2), .ref (a 3), .ref (a 4), .int (nI n2), .int (nI n4), .int (nI n6), .int v8, .int v9, .int v10, .int (nI n11), .int (nI n13), .int (nI n15), .int (nI (cd.2.2.2.2.2)), .ref (a 5), .ref (a 6), .ref (a 7), .ref (a 8), .ref (a 9), .ref (a 10), .ref (a 11), .ref (a 12), .ref (a 13), .ref (a 14), .ref (a 15), .ref (a 16), .ref (a 17), .int (nI n17), .ref (a 18), .ref (a 19), .ref (a 20), .ref (a 21), .int v19, .int v20, .int v21, .int v22, .int (nI n23), .int (nI n25), .ref (a 22), .ref (a 23), .ref (a 24), .ref (a 25), .ref (a 26), .ref (a 27), .ref (a 28), .ref (a 29), .ref (a 30), .int v27]) := by rw [hw113]; exact set_ne k107 (by decide)
  have k116 : w112[1]? = some (iA E (a 1) 382 (upd (upd (upd (upd (upd (upd (upd fn 380 v37) (0 + m0) (nI m58)) (48 + m0) (nI n73)) (96 + m0) (nI y0)) (144 + m0) (nI n92)) (192 + m0) (0 : Int32)) (240 + m0) (0 : Int32))) := by rw [hw113]; exact set_eq k108
  have k117 : w112[17]? = some (iA E (a 17) 11 g49) := by rw [hw113]; exact set_ne k109 (by decide)
  have kp118 := keeps_set kp110 hw113 (by first | exact rfl | decide | omega | (dsimp only; omega))
  refine x_aload_n C dX12_lays_115 rfl 3 rfl rfl ?_
  refine x_get C (ci := 11) (k := 0) 0 k115 rfl in_X12 (by decide) w_1118 rfl dX12_lays_116 rfl ?_
  refine x_sipush C (v := 381) dX12_lays_119 (by decide) rfl ?_
  refine x_iload C dX12_lays_122 0 rfl rfl ?_
  refine x_iconst C (v := 1) dX12_lays_124 (by decide) rfl ?_
  refine x_iadd C (v := (nI (m0 + 1))) dX12_lays_125 (nI_add m0 1) rfl ?_
  have pf119 : NB (upd (upd (upd (upd (upd (upd (upd (upd fn 380 v37) (0 + m0) (nI m58)) (48 + m0) (nI n73)) (96 + m0) (nI y0)) (144 + m0) (nI n92)) (192 + m0) (0 : Int32)) (240 + m0) (0 : Int32)) 381 (nI (m0 + 1))) := NB_put_many pf111 (by omega)
  obtain ⟨w120, hw121⟩ : ∃ w : va_W, w = List.set w112 1 (iA E (a 1) 382 (upd (upd (upd (upd (upd (upd (upd (upd fn 380 v37) (0 + m0) (nI m58)) (48 + m0) (nI n73)) (96 + m0) (nI y0)) (144 + m0) (nI n92)) (192 + m0) (0 : Int32)) (240 + m0) (0 : Int32)) 381 (nI (m0 + 1)))) := ⟨_, rfl⟩
  refine x_iask C 381 (by decide) (by decide) (by decide) 1 k116 hw121.symm dX12_lays_126 rfl ?_
  have hW122 : WX (okM E a cd) w120 := by rw [hw121]; exact hW114.set (k := 1) rfl ⟨_, pf119, rfl⟩
  have k123 : w120[0]? = some (ob (a 0) 11 [.ref (a 1), .ref (a 2), .ref (a 3), .ref (a 4), .int (nI n2), .int (nI n4), .int (nI n6), .int v8, .int v9, .int v10, .int (nI n11), .int (nI n13), .int (nI n15), .int (nI (cd.2.2.2.2.2)), .ref (a 5), .ref (a 6), .ref (a 7), .ref (a 8), .ref (a 9), .ref (a 10), .ref (a 11), .ref (a 12), .ref (a 13), .ref (a 14), .ref (a 15), .ref (a 16), .ref (a 17), .int (nI n17), .ref (a 18), .ref (a 19), .ref (a 20), .ref (a 21), .int v19, .int v20, .int v21, .int v22, .int (nI n23), .int (nI n25), .ref (a 22), .ref (a 23), .ref (a 24), .ref (a 25), .ref (a 26), .ref (a 27), .ref (a 28), .ref (a 29), .ref (a 30), .int v27]) := by rw [hw121]; exact set_ne k115 (by decide)
  have k124 : w120[1]? = some (iA E (a 1) 382 (upd (upd (upd (upd (upd (upd (upd (upd fn 380 v37) (0 + m0) (nI m58)) (48 + m0) (nI n73)) (96 + m0) (nI y0)) (144 + m0) (nI n92)) (192 + m0) (0 : Int32)) (240 + m0) (0 : Int32)) 381 (nI (m0 + 1)))) := by rw [hw121]; exact set_eq k116
  have k125 : w120[17]? = some (iA E (a 17) 11 g49) := by rw [hw121]; exact set_ne k117 (by decide)
  have kp126 := keeps_set kp118 hw121 (by first | exact rfl | decide | omega | (dsimp only; omega))
  refine x_aload_n C dX12_lays_127 rfl 3 rfl rfl ?_
  refine x_get C (ci := 11) (k := 0) 0 k123 rfl in_X12 (by decide) w_1118 rfl dX12_lays_128 rfl ?_
  refine x_sipush C (v := 296) dX12_lays_131 (by decide) rfl ?_
  refine x_aload_n C dX12_lays_134 rfl 3 rfl rfl ?_
  refine x_get C (ci := 11) (k := 0) 0 k123 rfl in_X12 (by decide) w_1118 rfl dX12_lays_135 rfl ?_
  refine x_sipush C (v := 329) dX12_lays_138 (by decide) rfl ?_
  refine x_iload_n C dX12_lays_141 rfl 4 rfl rfl ?_
  refine x_iadd C (v := (nI (329 + y0))) dX12_lays_142 (nI_add 329 y0) rfl ?_
  obtain ⟨n127, hn128, en129⟩ := NB_kp (j := y0) pf119 (by omega)
  refine x_ialk C (v := nI n127) (329 + y0) (nI_clamp (by omega)) (nI_pos (by omega)) (by omega) 1 k124 en129 dX12_lays_143 rfl ?_
  refine x_iadd C (v := (nI (296 + n127))) dX12_lays_144 (nI_add 296 n127) rfl ?_
  refine x_aload_n C dX12_lays_145 rfl 3 rfl rfl ?_
  refine x_get C (ci := 11) (k := 0) 0 k123 rfl in_X12 (by decide) w_1118 rfl dX12_lays_146 rfl ?_
  refine x_sipush C (v := 296) dX12_lays_149 (by decide) rfl ?_
  refine x_aload_n C dX12_lays_152 rfl 3 rfl rfl ?_
  refine x_get C (ci := 11) (k := 0) 0 k123 rfl in_X12 (by decide) w_1118 rfl dX12_lays_153 rfl ?_
  refine x_sipush C (v := 329) dX12_lays_156 (by decide) rfl ?_
  refine x_iload_n C dX12_lays_159 rfl 4 rfl rfl ?_
  refine x_iadd C (v := (nI (329 + y0))) dX12_lays_160 (nI_add 329 y0) rfl ?_
  refine x_ialk C (v := nI n127) (329 + y0) (nI_clamp (by omega)) (nI_pos (by omega)) (by omega) 1 k124 en129 dX12_lays_161 rfl ?_
  refine x_iadd C (v := (nI (296 + n127))) dX12_lays_162 (nI_add 296 n127) rfl ?_
  refine x_iald C (v := ((upd (upd (upd (upd (upd (upd (upd (upd fn 380 v37) (0 + m0) (nI m58)) (48 + m0) (nI n73)) (96 + m0) (nI y0)) (144 + m0) (nI n92)) (192 + m0) (0 : Int32)) (240 + m0) (0 : Int32)) 381 (nI (m0 + 1))) (nI (296 + n127)).toNatClampNeg)) 1 k124 (vp_in_nI (by omega) (by decide)) rfl dX12_lays_163 rfl ?_
  refine x_any (fun v133 => ?_)
  refine x_iload_n C dX12_lays_164 rfl 1 rfl rfl ?_
  refine x_iadd C (v := (v133 + (nI m58))) dX12_lays_165 rfl rfl ?_
  refine x_any (fun v134 => ?_)
  have pf135 : NB (upd (upd (upd (upd (upd (upd (upd (upd (upd fn 380 v37) (0 + m0) (nI m58)) (48 + m0) (nI n73)) (96 + m0) (nI y0)) (144 + m0) (nI n92)) (192 + m0) (0 : Int32)) (240 + m0) (0 : Int32)) 381 (nI (m0 + 1))) (296 + n127) v134) := NB_free pf119 (by unfold bd; omega)
  obtain ⟨w136, hw137⟩ : ∃ w : va_W, w = List.set w120 1 (iA E (a 1) 382 (upd (upd (upd (upd (upd (upd (upd (upd (upd fn 380 v37) (0 + m0) (nI m58)) (48 + m0) (nI n73)) (96 + m0) (nI y0)) (144 + m0) (nI n92)) (192 + m0) (0 : Int32)) (240 + m0) (0 : Int32)) 381 (nI (m0 + 1))) (296 + n127) v134)) := ⟨_, rfl⟩
  refine x_iask C (296 + n127) (nI_clamp (by omega)) (nI_pos (by omega)) (by omega) 1 k124 hw137.symm dX12_lays_166 rfl ?_
  have hW138 : WX (okM E a cd) w136 := by rw [hw137]; exact hW122.set (k := 1) rfl ⟨_, pf135, rfl⟩
  have k139 : w136[0]? = some (ob (a 0) 11 [.ref (a 1), .ref (a 2), .ref (a 3), .ref (a 4), .int (nI n2), .int (nI n4), .int (nI n6), .int v8, .int v9, .int v10, .int (nI n11), .int (nI n13), .int (nI n15), .int (nI (cd.2.2.2.2.2)), .ref (a 5), .ref (a 6), .ref (a 7), .ref (a 8), .ref (a 9), .ref (a 10), .ref (a 11), .ref (a 12), .ref (a 13), .ref (a 14), .ref (a 15), .ref (a 16), .ref (a 17), .int (nI n17), .ref (a 18), .ref (a 19), .ref (a 20), .ref (a 21), .int v19, .int v20, .int v21, .int v22, .int (nI n23), .int (nI n25), .ref (a 22), .ref (a 23), .ref (a 24), .ref (a 25), .ref (a 26), .ref (a 27), .ref (a 28), .ref (a 29), .ref (a 30), .int v27]) := by rw [hw137]; exact set_ne k123 (by decide)
  have k140 : w136[1]? = some (iA E (a 1) 382 (upd (upd (upd (upd (upd (upd (upd (upd (upd fn 380 v37) (0 + m0) (nI m58)) (48 + m0) (nI n73)) (96 + m0) (nI y0)) (144 + m0) (nI n92)) (192 + m0) (0 : Int32)) (240 + m0) (0 : Int32)) 381 (nI (m0 + 1))) (296 + n127) v134)) := by rw [hw137]; exact set_eq k124
  have k141 : w136[17]? = some (iA E (a 17) 11 g49) := by rw [hw137]; exact set_ne k125 (by decide)
  have kp142 := keeps_set kp126 hw137 (by first | exact rfl | decide | omega | (dsimp only; omega))
  refine x_aload_n C dX12_lays_167 rfl 3 rfl rfl ?_
  refine x_aload_n C dX12_lays_168 rfl 3 rfl rfl ?_
  refine x_get C (ci := 11) (k := 32) 0 k139 rfl in_X12 (by decide) w_1150 rfl dX12_lays_169 rfl ?_
  refine x_iconst C (v := 1) dX12_lays_172 (by decide) rfl ?_
  refine x_iadd C (v := (v19 + (1 : Int32))) dX12_lays_173 rfl rfl ?_
  refine x_any (fun v143 => ?_)
  obtain ⟨w144, hw145⟩ : ∃ w : va_W, w = List.set w136 0 (ob (a 0) 11 [.ref (a 1), .ref (a 2), .ref (a 3), .ref (a 4), .int (nI n2), .int (nI n4), .int (nI n6), .int v8, .int v9, .int v10, .int (nI n11), .int (nI n13), .int (nI n15), .int (nI (cd.2.2.2.2.2)), .ref (a 5), .ref (a 6), .ref (a 7), .ref (a 8), .ref (a 9), .ref (a 10), .ref (a 11), .ref (a 12), .ref (a 13), .ref (a 14), .ref (a 15), .ref (a 16), .ref (a 17), .int (nI n17), .ref (a 18), .ref (a 19), .ref (a 20), .ref (a 21), .int v143, .int v20, .int v21, .int v22, .int (nI n23), .int (nI n25), .ref (a 22), .ref (a 23), .ref (a 24), .ref (a 25), .ref (a 26), .ref (a 27), .ref (a 28), .ref (a 29), .ref (a 30), .int v27]) := ⟨_, rfl⟩
  refine x_put C (ci := 11) (k := 32) (ty := .int) 0 k139 rfl in_X12 tyX12 tyX12_ok nmX12 (by decide) w_1150 rfl rfl rfl rfl (Nat.le_of_ble_eq_true rfl) hw145.symm dX12_lays_174 rfl ?_
  have hW146 : WX (okM E a cd) w144 := by rw [hw145]; exact hW138.set (k := 0) rfl ⟨n2, n4, n6, v8, v9, v10, n11, n13, n15, n17, v143, v20, v21, v22, n23, n25, v27, by omega, by omega, by omega, by omega, by omega, by omega, by omega, by omega, by omega, zv28, rfl⟩
  have k147 : w144[0]? = some (ob (a 0) 11 [.ref (a 1), .ref (a 2), .ref (a 3), .ref (a 4), .int (nI n2), .int (nI n4), .int (nI n6), .int v8, .int v9, .int v10, .int (nI n11), .int (nI n13), .int (nI n15), .int (nI (cd.2.2.2.2.2)), .ref (a 5), .ref (a 6), .ref (a 7), .ref (a 8), .ref (a 9), .ref (a 10), .ref (a 11), .ref (a 12), .ref (a 13), .ref (a 14), .ref (a 15), .ref (a 16), .ref (a 17), .int (nI n17), .ref (a 18), .ref (a 19), .ref (a 20), .ref (a 21), .int v143, .int v20, .int v21, .int v22, .int (nI n23), .int (nI n25), .ref (a 22), .ref (a 23), .ref (a 24), .ref (a 25), .ref (a 26), .ref (a 27), .ref (a 28), .ref (a 29), .ref (a 30), .int v27]) := by rw [hw145]; exact set_eq k139
  have k148 : w144[1]? = some (iA E (a 1) 382 (upd (upd (upd (upd (upd (upd (upd (upd (upd fn 380 v37) (0 + m0) (nI m58)) (48 + m0) (nI n73)) (96 + m0) (nI y0)) (144 + m0) (nI n92)) (192 + m0) (0 : Int32)) (240 + m0) (0 : Int32)) 381 (nI (m0 + 1))) (296 + n127) v134)) := by rw [hw145]; exact set_ne k140 (by decide)
  have k149 : w144[17]? = some (iA E (a 17) 11 g49) := by rw [hw145]; exact set_ne k141 (by decide)
  have kp150 := keeps_set kp142 hw145 (by first | exact rfl | decide | omega | (dsimp only; omega))
  refine x_aload_n C dX12_lays_177 rfl 3 rfl rfl ?_
  refine x_aload_n C dX12_lays_178 rfl 3 rfl rfl ?_
  refine x_get C (ci := 11) (k := 33) 0 k147 rfl in_X12 (by decide) w_1151 rfl dX12_lays_179 rfl ?_
  refine x_iload_n C dX12_lays_182 rfl 1 rfl rfl ?_
  refine x_iadd C (v := (v20 + (nI m58))) dX12_lays_183 rfl rfl ?_
  refine x_any (fun v151 => ?_)
  obtain ⟨w152, hw153⟩ : ∃ w : va_W, w = List.set w144 0 (ob (a 0) 11 [.ref (a 1), .ref (a 2), .ref (a 3), .ref (a 4), .int (nI n2), .int (nI n4), .int (nI n6), .int v8, .int v9, .int v10, .int (nI n11), .int (nI n13), .int (nI n15), .int (nI (cd.2.2.2.2.2)), .ref (a 5), .ref (a 6), .ref (a 7), .ref (a 8), .ref (a 9), .ref (a 10), .ref (a 11), .ref (a 12), .ref (a 13), .ref (a 14), .ref (a 15), .ref (a 16), .ref (a 17), .int (nI n17), .ref (a 18), .ref (a 19), .ref (a 20), .ref (a 21), .int v143, .int v151, .int v21, .int v22, .int (nI n23), .int (nI n25), .ref (a 22), .ref (a 23), .ref (a 24), .ref (a 25), .ref (a 26), .ref (a 27), .ref (a 28), .ref (a 29), .ref (a 30), .int v27]) := ⟨_, rfl⟩
  refine x_put C (ci := 11) (k := 33) (ty := .int) 0 k147 rfl in_X12 tyX12 tyX12_ok nmX12 (by decide) w_1151 rfl rfl rfl rfl (Nat.le_of_ble_eq_true rfl) hw153.symm dX12_lays_184 rfl ?_
  have hW154 : WX (okM E a cd) w152 := by rw [hw153]; exact hW146.set (k := 0) rfl ⟨n2, n4, n6, v8, v9, v10, n11, n13, n15, n17, v143, v151, v21, v22, n23, n25, v27, by omega, by omega, by omega, by omega, by omega, by omega, by omega, by omega, by omega, zv28, rfl⟩
  have k155 : w152[0]? = some (ob (a 0) 11 [.ref (a 1), .ref (a 2), .ref (a 3), .ref (a 4), .int (nI n2), .int (nI n4), .int (nI n6), .int v8, .int v9, .int v10, .int (nI n11), .int (nI n13), .int (nI n15), .int (nI (cd.2.2.2.2.2)), .ref (a 5), .ref (a 6), .ref (a 7), .ref (a 8), .ref (a 9), .ref (a 10), .ref (a 11), .ref (a 12), .ref (a 13), .ref (a 14), .ref (a 15), .ref (a 16), .ref (a 17), .int (nI n17), .ref (a 18), .ref (a 19), .ref (a 20), .ref (a 21), .int v143, .int v151, .int v21, .int v22, .int (nI n23), .int (nI n25), .ref (a 22), .ref (a 23), .ref (a 24), .ref (a 25), .ref (a 26), .ref (a 27), .ref (a 28), .ref (a 29), .ref (a 30), .int v27]) := by rw [hw153]; exact set_eq k147
  have k156 : w152[1]? = some (iA E (a 1) 382 (upd (upd (upd (upd (upd (upd (upd (upd (upd fn 380 v37) (0 + m0) (nI m58)) (48 + m0) (nI n73)) (96 + m0) (nI y0)) (144 + m0) (nI n92)) (192 + m0) (0 : Int32)) (240 + m0) (0 : Int32)) 381 (nI (m0 + 1))) (296 + n127) v134)) := by rw [hw153]; exact set_ne k148 (by decide)
  have k157 : w152[17]? = some (iA E (a 17) 11 g49) := by rw [hw153]; exact set_ne k149 (by decide)
  have kp158 := keeps_set kp150 hw153 (by first | exact rfl | decide | omega | (dsimp only; omega))
  exact x_vret C hr hlk dX12_lays_187 ⟨hW154, kp158, (dyK_of hfn k156 pf135 (by repeat rw [pk_un (by omega)]))⟩
theorem dX12_dayGoes_0 : decode cX12_dayGoes 0 = .ok (.iconst 0, 1) := by decide +kernel
theorem dX12_dayGoes_1 : decode cX12_dayGoes 1 = .ok (.istore_n 1, 1) := by decide +kernel
theorem dX12_dayGoes_2 : decode cX12_dayGoes 2 = .ok (.iload_n 1, 1) := by decide +kernel
theorem dX12_dayGoes_3 : decode cX12_dayGoes 3 = .ok (.bipush 8, 2) := by decide +kernel
theorem dX12_dayGoes_5 : decode cX12_dayGoes 5 = .ok (.if_icmp .ge 74, 3) := by decide +kernel
theorem dX12_dayGoes_8 : decode cX12_dayGoes 8 = .ok (.aload_n 0, 1) := by decide +kernel
theorem dX12_dayGoes_9 : decode cX12_dayGoes 9 = .ok (.iload_n 1, 1) := by decide +kernel
theorem dX12_dayGoes_10 : decode cX12_dayGoes 10 = .ok (.invokevirtual 116, 3) := by decide +kernel
theorem dX12_dayGoes_13 : decode cX12_dayGoes 13 = .ok (.ifCond .ne 6, 3) := by decide +kernel
theorem dX12_dayGoes_16 : decode cX12_dayGoes 16 = .ok (.goto 57, 3) := by decide +kernel
theorem dX12_dayGoes_19 : decode cX12_dayGoes 19 = .ok (.aload_n 0, 1) := by decide +kernel
theorem dX12_dayGoes_20 : decode cX12_dayGoes 20 = .ok (.invokevirtual 304, 3) := by decide +kernel
theorem dX12_dayGoes_23 : decode cX12_dayGoes 23 = .ok (.istore_n 2, 1) := by decide +kernel
theorem dX12_dayGoes_24 : decode cX12_dayGoes 24 = .ok (.aload_n 0, 1) := by decide +kernel
theorem dX12_dayGoes_25 : decode cX12_dayGoes 25 = .ok (.iload_n 1, 1) := by decide +kernel
theorem dX12_dayGoes_26 : decode cX12_dayGoes 26 = .ok (.iconst 0, 1) := by decide +kernel
theorem dX12_dayGoes_27 : decode cX12_dayGoes 27 = .ok (.invokevirtual 307, 3) := by decide +kernel
theorem dX12_dayGoes_30 : decode cX12_dayGoes 30 = .ok (.iload_n 2, 1) := by decide +kernel
theorem dX12_dayGoes_31 : decode cX12_dayGoes 31 = .ok (.aload_n 0, 1) := by decide +kernel
theorem dX12_dayGoes_32 : decode cX12_dayGoes 32 = .ok (.bipush 102, 2) := by decide +kernel
theorem dX12_dayGoes_34 : decode cX12_dayGoes 34 = .ok (.bipush 10, 2) := by decide +kernel
theorem dX12_dayGoes_36 : decode cX12_dayGoes 36 = .ok (.invokevirtual 240, 3) := by decide +kernel
theorem dX12_dayGoes_39 : decode cX12_dayGoes 39 = .ok (.if_icmp .ge 16, 3) := by decide +kernel
theorem dX12_dayGoes_42 : decode cX12_dayGoes 42 = .ok (.aload_n 0, 1) := by decide +kernel
theorem dX12_dayGoes_43 : decode cX12_dayGoes 43 = .ok (.aload_n 0, 1) := by decide +kernel
theorem dX12_dayGoes_44 : decode cX12_dayGoes 44 = .ok (.getfield 316, 3) := by decide +kernel
theorem dX12_dayGoes_47 : decode cX12_dayGoes 47 = .ok (.iconst 1, 1) := by decide +kernel
theorem dX12_dayGoes_48 : decode cX12_dayGoes 48 = .ok (.iadd, 1) := by decide +kernel
theorem dX12_dayGoes_49 : decode cX12_dayGoes 49 = .ok (.putfield 316, 3) := by decide +kernel
theorem dX12_dayGoes_52 : decode cX12_dayGoes 52 = .ok (.goto 21, 3) := by decide +kernel
theorem dX12_dayGoes_55 : decode cX12_dayGoes 55 = .ok (.aload_n 0, 1) := by decide +kernel
theorem dX12_dayGoes_56 : decode cX12_dayGoes 56 = .ok (.getfield 7, 3) := by decide +kernel
theorem dX12_dayGoes_59 : decode cX12_dayGoes 59 = .ok (.sipush 381, 3) := by decide +kernel
theorem dX12_dayGoes_62 : decode cX12_dayGoes 62 = .ok (.iaload, 1) := by decide +kernel
theorem dX12_dayGoes_63 : decode cX12_dayGoes 63 = .ok (.bipush 48, 2) := by decide +kernel
theorem dX12_dayGoes_65 : decode cX12_dayGoes 65 = .ok (.if_icmp .ge 8, 3) := by decide +kernel
theorem dX12_dayGoes_68 : decode cX12_dayGoes 68 = .ok (.aload_n 0, 1) := by decide +kernel
theorem dX12_dayGoes_69 : decode cX12_dayGoes 69 = .ok (.iload_n 1, 1) := by decide +kernel
theorem dX12_dayGoes_70 : decode cX12_dayGoes 70 = .ok (.invokevirtual 319, 3) := by decide +kernel
theorem dX12_dayGoes_73 : decode cX12_dayGoes 73 = .ok (.iinc 1 1, 3) := by decide +kernel
theorem dX12_dayGoes_76 : decode cX12_dayGoes 76 = .ok (.goto (-74), 3) := by decide +kernel
theorem dX12_dayGoes_79 : decode cX12_dayGoes 79 = .ok (.iconst 0, 1) := by decide +kernel
theorem dX12_dayGoes_80 : decode cX12_dayGoes 80 = .ok (.istore_n 1, 1) := by decide +kernel
theorem dX12_dayGoes_81 : decode cX12_dayGoes 81 = .ok (.iload_n 1, 1) := by decide +kernel
theorem dX12_dayGoes_82 : decode cX12_dayGoes 82 = .ok (.aload_n 0, 1) := by decide +kernel
theorem dX12_dayGoes_83 : decode cX12_dayGoes 83 = .ok (.getfield 7, 3) := by decide +kernel
theorem dX12_dayGoes_86 : decode cX12_dayGoes 86 = .ok (.sipush 381, 3) := by decide +kernel
theorem dX12_dayGoes_89 : decode cX12_dayGoes 89 = .ok (.iaload, 1) := by decide +kernel
theorem dX12_dayGoes_90 : decode cX12_dayGoes 90 = .ok (.if_icmp .ge 76, 3) := by decide +kernel
theorem dX12_dayGoes_93 : decode cX12_dayGoes 93 = .ok (.aload_n 0, 1) := by decide +kernel
theorem dX12_dayGoes_94 : decode cX12_dayGoes 94 = .ok (.iload_n 1, 1) := by decide +kernel
theorem dX12_dayGoes_95 : decode cX12_dayGoes 95 = .ok (.invokevirtual 268, 3) := by decide +kernel
theorem dX12_dayGoes_98 : decode cX12_dayGoes 98 = .ok (.ifCond .ne 6, 3) := by decide +kernel
theorem dX12_dayGoes_101 : decode cX12_dayGoes 101 = .ok (.goto 59, 3) := by decide +kernel
theorem dX12_dayGoes_104 : decode cX12_dayGoes 104 = .ok (.aload_n 0, 1) := by decide +kernel
theorem dX12_dayGoes_105 : decode cX12_dayGoes 105 = .ok (.iload_n 1, 1) := by decide +kernel
theorem dX12_dayGoes_106 : decode cX12_dayGoes 106 = .ok (.invokevirtual 243, 3) := by decide +kernel
theorem dX12_dayGoes_109 : decode cX12_dayGoes 109 = .ok (.istore_n 2, 1) := by decide +kernel
theorem dX12_dayGoes_110 : decode cX12_dayGoes 110 = .ok (.iload_n 2, 1) := by decide +kernel
theorem dX12_dayGoes_111 : decode cX12_dayGoes 111 = .ok (.ifCond .eq 49, 3) := by decide +kernel
theorem dX12_dayGoes_114 : decode cX12_dayGoes 114 = .ok (.aload_n 0, 1) := by decide +kernel
theorem dX12_dayGoes_115 : decode cX12_dayGoes 115 = .ok (.getfield 7, 3) := by decide +kernel
theorem dX12_dayGoes_118 : decode cX12_dayGoes 118 = .ok (.sipush 379, 3) := by decide +kernel
theorem dX12_dayGoes_121 : decode cX12_dayGoes 121 = .ok (.iaload, 1) := by decide +kernel
theorem dX12_dayGoes_122 : decode cX12_dayGoes 122 = .ok (.aload_n 0, 1) := by decide +kernel
theorem dX12_dayGoes_123 : decode cX12_dayGoes 123 = .ok (.getfield 7, 3) := by decide +kernel
theorem dX12_dayGoes_126 : decode cX12_dayGoes 126 = .ok (.bipush 48, 2) := by decide +kernel
theorem dX12_dayGoes_128 : decode cX12_dayGoes 128 = .ok (.iload_n 1, 1) := by decide +kernel
theorem dX12_dayGoes_129 : decode cX12_dayGoes 129 = .ok (.iadd, 1) := by decide +kernel
theorem dX12_dayGoes_130 : decode cX12_dayGoes 130 = .ok (.iaload, 1) := by decide +kernel
theorem dX12_dayGoes_131 : decode cX12_dayGoes 131 = .ok (.isub, 1) := by decide +kernel
theorem dX12_dayGoes_132 : decode cX12_dayGoes 132 = .ok (.iload_n 2, 1) := by decide +kernel
theorem dX12_dayGoes_133 : decode cX12_dayGoes 133 = .ok (.if_icmp .ge 6, 3) := by decide +kernel
theorem dX12_dayGoes_136 : decode cX12_dayGoes 136 = .ok (.goto 24, 3) := by decide +kernel
theorem dX12_dayGoes_139 : decode cX12_dayGoes 139 = .ok (.aload_n 0, 1) := by decide +kernel
theorem dX12_dayGoes_140 : decode cX12_dayGoes 140 = .ok (.getfield 7, 3) := by decide +kernel
theorem dX12_dayGoes_143 : decode cX12_dayGoes 143 = .ok (.sipush 240, 3) := by decide +kernel
theorem dX12_dayGoes_146 : decode cX12_dayGoes 146 = .ok (.iload_n 1, 1) := by decide +kernel
theorem dX12_dayGoes_147 : decode cX12_dayGoes 147 = .ok (.iadd, 1) := by decide +kernel
theorem dX12_dayGoes_148 : decode cX12_dayGoes 148 = .ok (.iconst 2, 1) := by decide +kernel
theorem dX12_dayGoes_149 : decode cX12_dayGoes 149 = .ok (.iastore, 1) := by decide +kernel
theorem dX12_dayGoes_150 : decode cX12_dayGoes 150 = .ok (.aload_n 0, 1) := by decide +kernel
theorem dX12_dayGoes_151 : decode cX12_dayGoes 151 = .ok (.aload_n 0, 1) := by decide +kernel
theorem dX12_dayGoes_152 : decode cX12_dayGoes 152 = .ok (.getfield 322, 3) := by decide +kernel
theorem dX12_dayGoes_155 : decode cX12_dayGoes 155 = .ok (.iconst 1, 1) := by decide +kernel
theorem dX12_dayGoes_156 : decode cX12_dayGoes 156 = .ok (.iadd, 1) := by decide +kernel
theorem dX12_dayGoes_157 : decode cX12_dayGoes 157 = .ok (.putfield 322, 3) := by decide +kernel
theorem dX12_dayGoes_160 : decode cX12_dayGoes 160 = .ok (.iinc 1 1, 3) := by decide +kernel
theorem dX12_dayGoes_163 : decode cX12_dayGoes 163 = .ok (.goto (-82), 3) := by decide +kernel
theorem dX12_dayGoes_166 : decode cX12_dayGoes 166 = .ok (.aload_n 0, 1) := by decide +kernel
theorem dX12_dayGoes_167 : decode cX12_dayGoes 167 = .ok (.getfield 7, 3) := by decide +kernel
theorem dX12_dayGoes_170 : decode cX12_dayGoes 170 = .ok (.sipush 379, 3) := by decide +kernel
theorem dX12_dayGoes_173 : decode cX12_dayGoes 173 = .ok (.aload_n 0, 1) := by decide +kernel
theorem dX12_dayGoes_174 : decode cX12_dayGoes 174 = .ok (.getfield 7, 3) := by decide +kernel
theorem dX12_dayGoes_177 : decode cX12_dayGoes 177 = .ok (.sipush 379, 3) := by decide +kernel
theorem dX12_dayGoes_180 : decode cX12_dayGoes 180 = .ok (.iaload, 1) := by decide +kernel
theorem dX12_dayGoes_181 : decode cX12_dayGoes 181 = .ok (.iconst 1, 1) := by decide +kernel
theorem dX12_dayGoes_182 : decode cX12_dayGoes 182 = .ok (.iadd, 1) := by decide +kernel
theorem dX12_dayGoes_183 : decode cX12_dayGoes 183 = .ok (.iastore, 1) := by decide +kernel
theorem dX12_dayGoes_184 : decode cX12_dayGoes 184 = .ok (.return_, 1) := by decide +kernel
set_option maxRecDepth 20000 in
set_option maxHeartbeats 4000000 in
theorem m_dayGoes (E : xE) (l : Launch) (a : Nat → Nat) (cd : Cd) (hG : Good cd) (ws : va_W) (hW : WX (okM E a cd) ws) (fn : Nat → Int32) (hfn : ws[1]? = some (iA E (a 1) 382 fn)) (d0 : Nat) (hdl : d0 < 9999) (hd0 : fn 379 = nI d0) : xV E l yX12_dayGoes cX12_dayGoes 3 4 0 0 [.ref (a 0)] ws (fun w => WX (okM E a cd) w ∧ keeps ws w (fun q => q = 0 ∨ q = 1 ∨ q = 16 ∨ q = 17)) := by
  refine xV_start (lv := [(0, .ref (a 0))]) RX12 (by decide) rfl (Nat.le_of_ble_eq_true rfl) rfl (fun p e s m below meth c A C hr hlk hin => ?_)
  have kp0 : keeps ws ws (fun q => q = 0 ∨ q = 1 ∨ q = 16 ∨ q = 17) := keeps_rf
  obtain ⟨_, kq1, fq, pfq, rfl⟩ := hW 1 _ rfl
  obtain rfl := iA_inj (hfn.symm.trans kq1)
  refine x_iconst C (v := 0) dX12_dayGoes_0 (by decide) rfl ?_
  refine x_istore_n C (lv' := [(1, .int 0), (0, .ref (a 0))]) dX12_dayGoes_1 rfl (by decide) rfl rfl ?_
  have loop2 : ∀ (fu2 : Nat) (y : Nat) (wl2 : va_W), WX (okM E a cd) wl2 → 8 - y < fu2 → y ≤ 8 → (∃ f : Nat → Int32, wl2[1]? = some (iA E (a 1) 382 f) ∧ NB f ∧ f 379 = nI d0) → keeps ws wl2 (fun q => q = 0 ∨ q = 1 ∨ q = 16 ∨ q = 17) → X E p l e (xRm 4 0 0) s m ([.ref (a 0)] : List Value).toArray below meth c A 3 0 0 (MQ below (va_Qv (fun w => WX (okM E a cd) w ∧ keeps ws w (fun q => q = 0 ∨ q = 1 ∨ q = 16 ∨ q = 17)) (xB E A) A) ([.ref (a 0)] : List Value).toArray s 0 0 A) wl2 2 [(0, .ref (a 0)), (1, .int (nI y))] [] := by
    intro fu2
    induction fu2 with
    | zero => intro y wl2 _ q; omega
    | succ fu2 ih2 =>
      intro y wl2 hWl2 me2 iv2_0 iv2_1 kq2
      obtain ⟨f1, k2, pf3, ed4⟩ := iv2_1
      refine x_iload_n C dX12_dayGoes_2 rfl 1 rfl rfl ?_
      refine x_bipush C (v := 8) dX12_dayGoes_3 (by decide) rfl ?_
      refine x_icmp_ge C (tgt := 79) dX12_dayGoes_5 (by decide) rfl (fun c5 => ?_) (fun c5 => ?_)
      · skip
        have nf6 := nI_le' (a := 8) (b := y) c5 (by omega) (by omega)
        refine x_iconst C (v := 0) dX12_dayGoes_79 (by decide) rfl ?_
        refine x_istore_n C (lv' := [(1, .int 0), (0, .ref (a 0))]) dX12_dayGoes_80 rfl (by decide) rfl rfl ?_
        have loop81 : ∀ (fu81 : Nat) (i : Nat) (wl81 : va_W), WX (okM E a cd) wl81 → 48 - i < fu81 → i ≤ 48 → (∃ f : Nat → Int32, wl81[1]? = some (iA E (a 1) 382 f) ∧ NB f ∧ f 379 = nI d0) → keeps ws wl81 (fun q => q = 0 ∨ q = 1 ∨ q = 16 ∨ q = 17) → X E p l e (xRm 4 0 0) s m ([.ref (a 0)] : List Value).toArray below meth c A 3 0 0 (MQ below (va_Qv (fun w => WX (okM E a cd) w ∧ keeps ws w (fun q => q = 0 ∨ q = 1 ∨ q = 16 ∨ q = 17)) (xB E A) A) ([.ref (a 0)] : List Value).toArray s 0 0 A) wl81 81 [(0, .ref (a 0)), (1, .int (nI i))] [] := by
          intro fu81
          induction fu81 with
          | zero => intro i wl81 _ q; omega
          | succ fu81 ih81 =>
            intro i wl81 hWl81 me81 iv81_0 iv81_1 kq81
            obtain ⟨f7, k8, pf9, ed10⟩ := iv81_1
            refine x_iload_n C dX12_dayGoes_81 rfl 1 rfl rfl ?_
            refine x_aload_n C dX12_dayGoes_82 rfl 0 rfl rfl ?_
            obtain ⟨_, k11, n12, n14, n16, v18, v19, v20, n21, n23, n25, n27, v29, v30, v31, v32, n33, n35, v37, bn13, bn15, bn17, bn22, bn24, bn26, bn28, bn34, bn36, zv38, rfl⟩ := hWl81 0 _ rfl
            refine x_get C (ci := 11) (k := 0) 0 k11 rfl in_X12 (by decide) w_1118 rfl dX12_dayGoes_83 rfl ?_
            refine x_sipush C (v := 381) dX12_dayGoes_86 (by decide) rfl ?_
            obtain ⟨n39, hn40, en41⟩ := NB_many pf9
            refine x_ialk C (v := nI n39) 381 (by decide) (by decide) (by decide) 1 k8 en41 dX12_dayGoes_89 rfl ?_
            refine x_icmp_ge C (tgt := 166) dX12_dayGoes_90 (by decide) rfl (fun c42 => ?_) (fun c42 => ?_)
            · skip
              have nf43 := nI_le' (a := n39) (b := i) c42 (by omega) (by omega)
              refine x_aload_n C dX12_dayGoes_166 rfl 0 rfl rfl ?_
              refine x_get C (ci := 11) (k := 0) 0 k11 rfl in_X12 (by decide) w_1118 rfl dX12_dayGoes_167 rfl ?_
              refine x_sipush C (v := 379) dX12_dayGoes_170 (by decide) rfl ?_
              refine x_aload_n C dX12_dayGoes_173 rfl 0 rfl rfl ?_
              refine x_get C (ci := 11) (k := 0) 0 k11 rfl in_X12 (by decide) w_1118 rfl dX12_dayGoes_174 rfl ?_
              refine x_sipush C (v := 379) dX12_dayGoes_177 (by decide) rfl ?_
              refine x_ialk C (v := (f7 379)) 379 (by decide) (by decide) (by decide) 1 k8 rfl dX12_dayGoes_180 rfl ?_
              refine x_top (show f7 379 = nI d0 from by (repeat rw [pk_un (by omega)]); exact ed10) ?_
              refine x_iconst C (v := 1) dX12_dayGoes_181 (by decide) rfl ?_
              refine x_iadd C (v := (nI (d0 + 1))) dX12_dayGoes_182 (nI_add d0 1) rfl ?_
              have pf44 : NB (upd f7 379 (nI (d0 + 1))) := NB_put_day pf9 (by omega)
              obtain ⟨w45, hw46⟩ : ∃ w : va_W, w = List.set wl81 1 (iA E (a 1) 382 (upd f7 379 (nI (d0 + 1)))) := ⟨_, rfl⟩
              refine x_iask C 379 (by decide) (by decide) (by decide) 1 k8 hw46.symm dX12_dayGoes_183 rfl ?_
              have hW47 : WX (okM E a cd) w45 := by rw [hw46]; exact hWl81.set (k := 1) rfl ⟨_, pf44, rfl⟩
              have k48 : w45[1]? = some (iA E (a 1) 382 (upd f7 379 (nI (d0 + 1)))) := by rw [hw46]; exact set_eq k8
              have k49 : w45[0]? = some (ob (a 0) 11 [.ref (a 1), .ref (a 2), .ref (a 3), .ref (a 4), .int (nI n12), .int (nI n14), .int (nI n16), .int v18, .int v19, .int v20, .int (nI n21), .int (nI n23), .int (nI n25), .int (nI (cd.2.2.2.2.2)), .ref (a 5), .ref (a 6), .ref (a 7), .ref (a 8), .ref (a 9), .ref (a 10), .ref (a 11), .ref (a 12), .ref (a 13), .ref (a 14), .ref (a 15), .ref (a 16), .ref (a 17), .int (nI n27), .ref (a 18), .ref (a 19), .ref (a 20), .ref (a 21), .int v29, .int v30, .int v31, .int v32, .int (nI n33), .int (nI n35), .ref (a 22), .ref (a 23), .ref (a 24), .ref (a 25), .ref (a 26), .ref (a 27), .ref (a 28), .ref (a 29), .ref (a 30), .int v37]) := by rw [hw46]; exact set_ne k11 (by decide)
              have kp50 := keeps_set kq81 hw46 (by first | exact rfl | decide | omega | (dsimp only; omega))
              exact x_vret C hr hlk dX12_dayGoes_184 ⟨hW47, kp50⟩
            · skip
              have nf51 := nI_nle' (a := n39) (b := i) c42 (by omega) (by omega)
              refine x_aload_n C dX12_dayGoes_93 rfl 0 rfl rfl ?_
              refine x_iload_n C dX12_dayGoes_94 rfl 1 rfl rfl ?_
              refine x_vi C (As := [.int (nI i)]) (rest := []) (m_isWhole E l a cd hG wl81 hWl81 ((nI i))) mf_X12_isWhole w_1435 0 k11 rfl rfl rfl (Nat.le_of_ble_eq_true rfl) ⟨(Nat.le_of_ble_eq_true rfl), (Nat.le_of_ble_eq_true rfl)⟩ ⟨(Nat.le_of_ble_eq_true rfl), (Nat.le_of_ble_eq_true rfl)⟩ dX12_dayGoes_95 rfl (fun r53 w54 h52 => ?_)
              obtain ⟨hW55, zb56, x57⟩ := h52
              refine x_ws hW55 ?_
              refine x_if_ne C (tgt := 104) dX12_dayGoes_98 (by decide) rfl (fun c58 => ?_) (fun c58 => ?_)
              · skip
                have wi59 := wth_le (a := 0) (b := 47) (j := i) (x57 c58) (by omega) (by decide) (by decide)
                refine x_aload_n C dX12_dayGoes_104 rfl 0 rfl rfl ?_
                refine x_iload_n C dX12_dayGoes_105 rfl 1 rfl rfl ?_
                refine x_vi C (As := [.int (nI i)]) (rest := []) (m_badBehind E l a cd hG wl81 hWl81 i (by omega)) mf_X12_badBehind w_1518 0 k11 rfl rfl rfl (Nat.le_of_ble_eq_true rfl) ⟨(Nat.le_of_ble_eq_true rfl), (Nat.le_of_ble_eq_true rfl)⟩ ⟨(Nat.le_of_ble_eq_true rfl), (Nat.le_of_ble_eq_true rfl)⟩ dX12_dayGoes_106 rfl (fun r61 w62 h60 => ?_)
                obtain ⟨hW63, kq64, ⟨m66, bm67, e65⟩⟩ := h60
                refine x_top e65 ?_
                have k68 : w62[1]? = some (iA E (a 1) 382 f7) := keeps_at kq64 k8 (by first | decide | omega | (dsimp only; omega))
                have k69 : w62[0]? = some (ob (a 0) 11 [.ref (a 1), .ref (a 2), .ref (a 3), .ref (a 4), .int (nI n12), .int (nI n14), .int (nI n16), .int v18, .int v19, .int v20, .int (nI n21), .int (nI n23), .int (nI n25), .int (nI (cd.2.2.2.2.2)), .ref (a 5), .ref (a 6), .ref (a 7), .ref (a 8), .ref (a 9), .ref (a 10), .ref (a 11), .ref (a 12), .ref (a 13), .ref (a 14), .ref (a 15), .ref (a 16), .ref (a 17), .int (nI n27), .ref (a 18), .ref (a 19), .ref (a 20), .ref (a 21), .int v29, .int v30, .int v31, .int v32, .int (nI n33), .int (nI n35), .ref (a 22), .ref (a 23), .ref (a 24), .ref (a 25), .ref (a 26), .ref (a 27), .ref (a 28), .ref (a 29), .ref (a 30), .int v37]) := keeps_at kq64 k11 (by first | decide | omega | (dsimp only; omega))
                have kp70 := keeps_tr kq81 kq64 (fun q hq => by first | omega | (dsimp only at *; omega))
                refine x_istore_n C (lv' := [(2, .int (nI m66)), (0, .ref (a 0)), (1, .int (nI i))]) dX12_dayGoes_109 rfl (by decide) rfl rfl ?_
                refine x_iload_n C dX12_dayGoes_110 rfl 0 rfl rfl ?_
                refine x_if_eq C (tgt := 160) dX12_dayGoes_111 (by decide) rfl (fun c71 => ?_) (fun c71 => ?_)
                · skip
                  have nf72 : m66 = 0 := (nI_eq (by omega) (by omega)).mp c71
                  refine x_iinc C (v := (nI (i + 1))) (lv' := [(1, .int (nI (i + 1))), (2, .int (nI m66)), (0, .ref (a 0))]) dX12_dayGoes_160 2 rfl (nI_add i 1) (by decide) rfl rfl ?_
                  refine x_goto C (tgt := 81) dX12_dayGoes_163 (by decide) ?_
                  refine x_lv (lv1 := [(0, .ref (a 0)), (1, .int (nI (i + 1)))]) [2, 0] rfl ?_
                  exact ih81 (i + 1) w62 hW63 (by omega) (by omega) ⟨_, k68, pf9, by (repeat rw [pk_un (by omega)]); exact ed10⟩ kp70
                · skip
                  have nf73 : ¬ m66 = 0 := fun q => c71 (congrArg nI q)
                  refine x_aload_n C dX12_dayGoes_114 rfl 1 rfl rfl ?_
                  refine x_get C (ci := 11) (k := 0) 0 k69 rfl in_X12 (by decide) w_1118 rfl dX12_dayGoes_115 rfl ?_
                  refine x_sipush C (v := 379) dX12_dayGoes_118 (by decide) rfl ?_
                  obtain ⟨n74, hn75, en76⟩ := NB_day pf9
                  refine x_ialk C (v := nI n74) 379 (by decide) (by decide) (by decide) 1 k68 en76 dX12_dayGoes_121 rfl ?_
                  refine x_aload_n C dX12_dayGoes_122 rfl 1 rfl rfl ?_
                  refine x_get C (ci := 11) (k := 0) 0 k69 rfl in_X12 (by decide) w_1118 rfl dX12_dayGoes_123 rfl ?_
                  refine x_bipush C (v := 48) dX12_dayGoes_126 (by decide) rfl ?_
                  refine x_iload_n C dX12_dayGoes_128 rfl 2 rfl rfl ?_
                  refine x_iadd C (v := (nI (48 + i))) dX12_dayGoes_129 (nI_add 48 i) rfl ?_
                  obtain ⟨n77, hn78, en79⟩ := NB_lo (j := i) pf9 (by omega)
                  refine x_ialk C (v := nI n77) (48 + i) (nI_clamp (by omega)) (nI_pos (by omega)) (by omega) 1 k68 en79 dX12_dayGoes_130 rfl ?_
                  refine x_isub C (v := ((nI n74) - (nI n77))) dX12_dayGoes_131 rfl rfl ?_
                  refine x_any (fun v80 => ?_)
                  refine x_iload_n C dX12_dayGoes_132 rfl 0 rfl rfl ?_
                  refine x_icmp_ge C (tgt := 139) dX12_dayGoes_133 (by decide) rfl (fun c81 => ?_) (fun c81 => ?_)
                  · skip
                    refine x_aload_n C dX12_dayGoes_139 rfl 1 rfl rfl ?_
                    refine x_get C (ci := 11) (k := 0) 0 k69 rfl in_X12 (by decide) w_1118 rfl dX12_dayGoes_140 rfl ?_
                    refine x_sipush C (v := 240) dX12_dayGoes_143 (by decide) rfl ?_
                    refine x_iload_n C dX12_dayGoes_146 rfl 2 rfl rfl ?_
                    refine x_iadd C (v := (nI (240 + i))) dX12_dayGoes_147 (nI_add 240 i) rfl ?_
                    refine x_iconst C (v := 2) dX12_dayGoes_148 (by decide) rfl ?_
                    have pf82 : NB (upd f7 (240 + i) (2 : Int32)) := NB_free pf9 (by unfold bd; omega)
                    obtain ⟨w83, hw84⟩ : ∃ w : va_W, w = List.set w62 1 (iA E (a 1) 382 (upd f7 (240 + i) (2 : Int32))) := ⟨_, rfl⟩
                    refine x_iask C (240 + i) (nI_clamp (by omega)) (nI_pos (by omega)) (by omega) 1 k68 hw84.symm dX12_dayGoes_149 rfl ?_
                    have hW85 : WX (okM E a cd) w83 := by rw [hw84]; exact hW63.set (k := 1) rfl ⟨_, pf82, rfl⟩
                    have k86 : w83[1]? = some (iA E (a 1) 382 (upd f7 (240 + i) (2 : Int32))) := by rw [hw84]; exact set_eq k68
                    have k87 : w83[0]? = some (ob (a 0) 11 [.ref (a 1), .ref (a 2), .ref (a 3), .ref (a 4), .int (nI n12), .int (nI n14), .int (nI n16), .int v18, .int v19, .int v20, .int (nI n21), .int (nI n23), .int (nI n25), .int (nI (cd.2.2.2.2.2)), .ref (a 5), .ref (a 6), .ref (a 7), .ref (a 8), .ref (a 9), .ref (a 10), .ref (a 11), .ref (a 12), .ref (a 13), .ref (a 14), .ref (a 15), .ref (a 16), .ref (a 17), .int (nI n27), .ref (a 18), .ref (a 19), .ref (a 20), .ref (a 21), .int v29, .int v30, .int v31, .int v32, .int (nI n33), .int (nI n35), .ref (a 22), .ref (a 23), .ref (a 24), .ref (a 25), .ref (a 26), .ref (a 27), .ref (a 28), .ref (a 29), .ref (a 30), .int v37]) := by rw [hw84]; exact set_ne k69 (by decide)
                    have kp88 := keeps_set kp70 hw84 (by first | exact rfl | decide | omega | (dsimp only; omega))
                    refine x_aload_n C dX12_dayGoes_150 rfl 1 rfl rfl ?_
                    refine x_aload_n C dX12_dayGoes_151 rfl 1 rfl rfl ?_
                    refine x_get C (ci := 11) (k := 34) 0 k87 rfl in_X12 (by decide) w_1152 rfl dX12_dayGoes_152 rfl ?_
                    refine x_iconst C (v := 1) dX12_dayGoes_155 (by decide) rfl ?_
                    refine x_iadd C (v := (v31 + (1 : Int32))) dX12_dayGoes_156 rfl rfl ?_
                    refine x_any (fun v89 => ?_)
                    obtain ⟨w90, hw91⟩ : ∃ w : va_W, w = List.set w83 0 (ob (a 0) 11 [.ref (a 1), .ref (a 2), .ref (a 3), .ref (a 4), .int (nI n12), .int (nI n14), .int (nI n16), .int v18, .int v19, .int v20, .int (nI n21), .int (nI n23), .int (nI n25), .int (nI (cd.2.2.2.2.2)), .ref (a 5), .ref (a 6), .ref (a 7), .ref (a 8), .ref (a 9), .ref (a 10), .ref (a 11), .ref (a 12), .ref (a 13), .ref (a 14), .ref (a 15), .ref (a 16), .ref (a 17), .int (nI n27), .ref (a 18), .ref (a 19), .ref (a 20), .ref (a 21), .int v29, .int v30, .int v89, .int v32, .int (nI n33), .int (nI n35), .ref (a 22), .ref (a 23), .ref (a 24), .ref (a 25), .ref (a 26), .ref (a 27), .ref (a 28), .ref (a 29), .ref (a 30), .int v37]) := ⟨_, rfl⟩
                    refine x_put C (ci := 11) (k := 34) (ty := .int) 0 k87 rfl in_X12 tyX12 tyX12_ok nmX12 (by decide) w_1152 rfl rfl rfl rfl (Nat.le_of_ble_eq_true rfl) hw91.symm dX12_dayGoes_157 rfl ?_
                    have hW92 : WX (okM E a cd) w90 := by rw [hw91]; exact hW85.set (k := 0) rfl ⟨n12, n14, n16, v18, v19, v20, n21, n23, n25, n27, v29, v30, v89, v32, n33, n35, v37, by omega, by omega, by omega, by omega, by omega, by omega, by omega, by omega, by omega, zv38, rfl⟩
                    have k93 : w90[1]? = some (iA E (a 1) 382 (upd f7 (240 + i) (2 : Int32))) := by rw [hw91]; exact set_ne k86 (by decide)
                    have k94 : w90[0]? = some (ob (a 0) 11 [.ref (a 1), .ref (a 2), .ref (a 3), .ref (a 4), .int (nI n12), .int (nI n14), .int (nI n16), .int v18, .int v19, .int v20, .int (nI n21), .int (nI n23), .int (nI n25), .int (nI (cd.2.2.2.2.2)), .ref (a 5), .ref (a 6), .ref (a 7), .ref (a 8), .ref (a 9), .ref (a 10), .ref (a 11), .ref (a 12), .ref (a 13), .ref (a 14), .ref (a 15), .ref (a 16), .ref (a 17), .int (nI n27), .ref (a 18), .ref (a 19), .ref (a 20), .ref (a 21), .int v29, .int v30, .int v89, .int v32, .int (nI n33), .int (nI n35), .ref (a 22), .ref (a 23), .ref (a 24), .ref (a 25), .ref (a 26), .ref (a 27), .ref (a 28), .ref (a 29), .ref (a 30), .int v37]) := by rw [hw91]; exact set_eq k87
                    have kp95 := keeps_set kp88 hw91 (by first | exact rfl | decide | omega | (dsimp only; omega))
                    refine x_iinc C (v := (nI (i + 1))) (lv' := [(1, .int (nI (i + 1))), (2, .int (nI m66)), (0, .ref (a 0))]) dX12_dayGoes_160 2 rfl (nI_add i 1) (by decide) rfl rfl ?_
                    refine x_goto C (tgt := 81) dX12_dayGoes_163 (by decide) ?_
                    refine x_lv (lv1 := [(0, .ref (a 0)), (1, .int (nI (i + 1)))]) [2, 0] rfl ?_
                    exact ih81 (i + 1) w90 hW92 (by omega) (by omega) ⟨_, k93, pf82, by (repeat rw [pk_un (by omega)]); exact ed10⟩ kp95
                  · skip
                    refine x_goto C (tgt := 160) dX12_dayGoes_136 (by decide) ?_
                    refine x_iinc C (v := (nI (i + 1))) (lv' := [(1, .int (nI (i + 1))), (2, .int (nI m66)), (0, .ref (a 0))]) dX12_dayGoes_160 2 rfl (nI_add i 1) (by decide) rfl rfl ?_
                    refine x_goto C (tgt := 81) dX12_dayGoes_163 (by decide) ?_
                    refine x_lv (lv1 := [(0, .ref (a 0)), (1, .int (nI (i + 1)))]) [2, 0] rfl ?_
                    exact ih81 (i + 1) w62 hW63 (by omega) (by omega) ⟨_, k68, pf9, by (repeat rw [pk_un (by omega)]); exact ed10⟩ kp70
              · skip
                refine x_goto C (tgt := 160) dX12_dayGoes_101 (by decide) ?_
                refine x_iinc C (v := (nI (i + 1))) (lv' := [(1, .int (nI (i + 1))), (0, .ref (a 0))]) dX12_dayGoes_160 1 rfl (nI_add i 1) (by decide) rfl rfl ?_
                refine x_goto C (tgt := 81) dX12_dayGoes_163 (by decide) ?_
                refine x_lv (lv1 := [(0, .ref (a 0)), (1, .int (nI (i + 1)))]) [1, 0] rfl ?_
                exact ih81 (i + 1) wl81 hWl81 (by omega) (by omega) ⟨_, k8, pf9, by (repeat rw [pk_un (by omega)]); exact ed10⟩ kq81
        refine x_lv (lv1 := [(0, .ref (a 0)), (1, .int 0)]) [1, 0] rfl ?_
        exact loop81 _ 0 wl2 hWl2 (Nat.lt_succ_self _) (by omega) ⟨_, k2, pf3, by (repeat rw [pk_un (by omega)]); exact ed4⟩ kq2
      · skip
        have nf96 := nI_nle' (a := 8) (b := y) c5 (by omega) (by omega)
        refine x_aload_n C dX12_dayGoes_8 rfl 0 rfl rfl ?_
        refine x_iload_n C dX12_dayGoes_9 rfl 1 rfl rfl ?_
        obtain ⟨_, k97, n98, n100, n102, v104, v105, v106, n107, n109, n111, n113, v115, v116, v117, v118, n119, n121, v123, bn99, bn101, bn103, bn108, bn110, bn112, bn114, bn120, bn122, zv124, rfl⟩ := hWl2 0 _ rfl
        refine x_vi C (As := [.int (nI y)]) (rest := []) (m_isHen E l a cd hG wl2 hWl2 ((nI y))) mf_X12_isHen w_1285 0 k97 rfl rfl rfl (Nat.le_of_ble_eq_true rfl) ⟨(Nat.le_of_ble_eq_true rfl), (Nat.le_of_ble_eq_true rfl)⟩ ⟨(Nat.le_of_ble_eq_true rfl), (Nat.le_of_ble_eq_true rfl)⟩ dX12_dayGoes_10 rfl (fun r126 w127 h125 => ?_)
        obtain ⟨hW128, zb129, x130⟩ := h125
        refine x_ws hW128 ?_
        refine x_if_ne C (tgt := 19) dX12_dayGoes_13 (by decide) rfl (fun c131 => ?_) (fun c131 => ?_)
        · skip
          have wi132 := wth_le (a := 0) (b := 7) (j := y) (x130 c131) (by omega) (by decide) (by decide)
          refine x_aload_n C dX12_dayGoes_19 rfl 0 rfl rfl ?_
          refine x_vi C (As := []) (rest := []) (m_draws E l a cd hG wl2 hWl2) mf_X12_draws w_1505 0 k97 rfl rfl rfl (Nat.le_of_ble_eq_true rfl) ⟨(Nat.le_of_ble_eq_true rfl), (Nat.le_of_ble_eq_true rfl)⟩ ⟨(Nat.le_of_ble_eq_true rfl), (Nat.le_of_ble_eq_true rfl)⟩ dX12_dayGoes_20 rfl (fun r134 w135 h133 => ?_)
          obtain ⟨hW136, kq137, x138⟩ := h133
          have k139 : w135[0]? = some (ob (a 0) 11 [.ref (a 1), .ref (a 2), .ref (a 3), .ref (a 4), .int (nI n98), .int (nI n100), .int (nI n102), .int v104, .int v105, .int v106, .int (nI n107), .int (nI n109), .int (nI n111), .int (nI (cd.2.2.2.2.2)), .ref (a 5), .ref (a 6), .ref (a 7), .ref (a 8), .ref (a 9), .ref (a 10), .ref (a 11), .ref (a 12), .ref (a 13), .ref (a 14), .ref (a 15), .ref (a 16), .ref (a 17), .int (nI n113), .ref (a 18), .ref (a 19), .ref (a 20), .ref (a 21), .int v115, .int v116, .int v117, .int v118, .int (nI n119), .int (nI n121), .ref (a 22), .ref (a 23), .ref (a 24), .ref (a 25), .ref (a 26), .ref (a 27), .ref (a 28), .ref (a 29), .ref (a 30), .int v123]) := keeps_at kq137 k97 (by first | decide | omega | (dsimp only; omega))
          have kp140 := keeps_tr kq2 kq137 (fun q hq => by first | omega | (dsimp only at *; omega))
          obtain ⟨v141, k142⟩ := x138 _ k2
          have pf143 : NB (upd f1 380 v141) := NB_free pf3 (by unfold bd; omega)
          refine x_istore_n C (lv' := [(2, .int r134), (0, .ref (a 0)), (1, .int (nI y))]) dX12_dayGoes_23 rfl (by decide) rfl rfl ?_
          refine x_aload_n C dX12_dayGoes_24 rfl 1 rfl rfl ?_
          refine x_iload_n C dX12_dayGoes_25 rfl 2 rfl rfl ?_
          refine x_iconst C (v := 0) dX12_dayGoes_26 (by decide) rfl ?_
          refine x_vv C (As := [.int (nI y), .int 0]) (rest := []) (m_feelsHen E l a cd hG w135 hW136 y (0 : Int32) (by omega) ((upd f1 380 v141)) k142) mf_X12_feelsHen w_1510 0 k139 rfl rfl rfl (Nat.le_of_ble_eq_true rfl) ⟨(Nat.le_of_ble_eq_true rfl), (Nat.le_of_ble_eq_true rfl)⟩ ⟨(Nat.le_of_ble_eq_true rfl), (Nat.le_of_ble_eq_true rfl)⟩ dX12_dayGoes_27 rfl (fun w146 h144 => ?_)
          obtain ⟨hW147, kq148, x149⟩ := h144
          have k150 : w146[0]? = some (ob (a 0) 11 [.ref (a 1), .ref (a 2), .ref (a 3), .ref (a 4), .int (nI n98), .int (nI n100), .int (nI n102), .int v104, .int v105, .int v106, .int (nI n107), .int (nI n109), .int (nI n111), .int (nI (cd.2.2.2.2.2)), .ref (a 5), .ref (a 6), .ref (a 7), .ref (a 8), .ref (a 9), .ref (a 10), .ref (a 11), .ref (a 12), .ref (a 13), .ref (a 14), .ref (a 15), .ref (a 16), .ref (a 17), .int (nI n113), .ref (a 18), .ref (a 19), .ref (a 20), .ref (a 21), .int v115, .int v116, .int v117, .int v118, .int (nI n119), .int (nI n121), .ref (a 22), .ref (a 23), .ref (a 24), .ref (a 25), .ref (a 26), .ref (a 27), .ref (a 28), .ref (a 29), .ref (a 30), .int v123]) := keeps_at kq148 k139 (by first | decide | omega | (dsimp only; omega))
          have k151 : w146[1]? = some (iA E (a 1) 382 (upd f1 380 v141)) := keeps_at kq148 k142 (by first | decide | omega | (dsimp only; omega))
          have kp152 := keeps_tr kp140 kq148 (fun q hq => by first | omega | (dsimp only at *; omega))
          obtain ⟨g153, k154, ecl155⟩ := x149
          refine x_iload_n C dX12_dayGoes_30 rfl 0 rfl rfl ?_
          refine x_aload_n C dX12_dayGoes_31 rfl 1 rfl rfl ?_
          refine x_bipush C (v := 102) dX12_dayGoes_32 (by decide) rfl ?_
          refine x_bipush C (v := 10) dX12_dayGoes_34 (by decide) rfl ?_
          refine x_vi C (As := [.int 102, .int 10]) (rest := [.int r134]) (m_byLaw E l a cd hG w146 hW147 (102 : Int32) 10 (by omega) g153 k154) mf_X12_byLaw w_1463 0 k150 rfl rfl rfl (Nat.le_of_ble_eq_true rfl) ⟨(Nat.le_of_ble_eq_true rfl), (Nat.le_of_ble_eq_true rfl)⟩ ⟨(Nat.le_of_ble_eq_true rfl), (Nat.le_of_ble_eq_true rfl)⟩ dX12_dayGoes_36 rfl (fun r157 w158 h156 => ?_)
          obtain ⟨hW159, kq160, ⟨m162, bm163, e161⟩, x164⟩ := h156
          refine x_top e161 ?_
          have k165 : w158[0]? = some (ob (a 0) 11 [.ref (a 1), .ref (a 2), .ref (a 3), .ref (a 4), .int (nI n98), .int (nI n100), .int (nI n102), .int v104, .int v105, .int v106, .int (nI n107), .int (nI n109), .int (nI n111), .int (nI (cd.2.2.2.2.2)), .ref (a 5), .ref (a 6), .ref (a 7), .ref (a 8), .ref (a 9), .ref (a 10), .ref (a 11), .ref (a 12), .ref (a 13), .ref (a 14), .ref (a 15), .ref (a 16), .ref (a 17), .int (nI n113), .ref (a 18), .ref (a 19), .ref (a 20), .ref (a 21), .int v115, .int v116, .int v117, .int v118, .int (nI n119), .int (nI n121), .ref (a 22), .ref (a 23), .ref (a 24), .ref (a 25), .ref (a 26), .ref (a 27), .ref (a 28), .ref (a 29), .ref (a 30), .int v123]) := keeps_at kq160 k150 (by first | decide | omega | (dsimp only; omega))
          have k166 : w158[1]? = some (iA E (a 1) 382 (upd f1 380 v141)) := keeps_at kq160 k151 (by first | decide | omega | (dsimp only; omega))
          have k167 : w158[17]? = some (iA E (a 17) 11 g153) := keeps_at kq160 k154 (by first | decide | omega | (dsimp only; omega))
          have kp168 := keeps_tr kp152 kq160 (fun q hq => by first | omega | (dsimp only at *; omega))
          refine x_icmp_ge C (tgt := 55) dX12_dayGoes_39 (by decide) rfl (fun c169 => ?_) (fun c169 => ?_)
          · skip
            refine x_aload_n C dX12_dayGoes_55 rfl 1 rfl rfl ?_
            refine x_get C (ci := 11) (k := 0) 0 k165 rfl in_X12 (by decide) w_1118 rfl dX12_dayGoes_56 rfl ?_
            refine x_sipush C (v := 381) dX12_dayGoes_59 (by decide) rfl ?_
            obtain ⟨n170, hn171, en172⟩ := NB_many pf143
            refine x_ialk C (v := nI n170) 381 (by decide) (by decide) (by decide) 1 k166 en172 dX12_dayGoes_62 rfl ?_
            refine x_bipush C (v := 48) dX12_dayGoes_63 (by decide) rfl ?_
            refine x_icmp_ge C (tgt := 73) dX12_dayGoes_65 (by decide) rfl (fun c173 => ?_) (fun c173 => ?_)
            · skip
              have nf174 := nI_le' (a := 48) (b := n170) c173 (by omega) (by omega)
              refine x_iinc C (v := (nI (y + 1))) (lv' := [(1, .int (nI (y + 1))), (2, .int r134), (0, .ref (a 0))]) dX12_dayGoes_73 2 rfl (nI_add y 1) (by decide) rfl rfl ?_
              refine x_goto C (tgt := 2) dX12_dayGoes_76 (by decide) ?_
              refine x_lv (lv1 := [(0, .ref (a 0)), (1, .int (nI (y + 1)))]) [2, 0] rfl ?_
              exact ih2 (y + 1) w158 hW159 (by omega) (by omega) ⟨_, k166, pf143, by (repeat rw [pk_un (by omega)]); exact ed4⟩ kp168
            · skip
              have nf175 := nI_nle' (a := 48) (b := n170) c173 (by omega) (by omega)
              refine x_aload_n C dX12_dayGoes_68 rfl 1 rfl rfl ?_
              refine x_iload_n C dX12_dayGoes_69 rfl 2 rfl rfl ?_
              refine x_vv C (As := [.int (nI y)]) (rest := []) (m_lays E l a cd hG w158 hW159 y (by omega) ((upd f1 380 v141)) k166 n170 (by omega) en172) mf_X12_lays w_1514 0 k165 rfl rfl rfl (Nat.le_of_ble_eq_true rfl) ⟨(Nat.le_of_ble_eq_true rfl), (Nat.le_of_ble_eq_true rfl)⟩ ⟨(Nat.le_of_ble_eq_true rfl), (Nat.le_of_ble_eq_true rfl)⟩ dX12_dayGoes_70 rfl (fun w178 h176 => ?_)
              obtain ⟨hW179, kq180, x181⟩ := h176
              have kp182 := keeps_tr kp168 kq180 (fun q hq => by first | omega | (dsimp only at *; omega))
              obtain ⟨f183, k184, pf185, ed186⟩ := x181 _ k166
              refine x_iinc C (v := (nI (y + 1))) (lv' := [(1, .int (nI (y + 1))), (2, .int r134), (0, .ref (a 0))]) dX12_dayGoes_73 2 rfl (nI_add y 1) (by decide) rfl rfl ?_
              refine x_goto C (tgt := 2) dX12_dayGoes_76 (by decide) ?_
              refine x_lv (lv1 := [(0, .ref (a 0)), (1, .int (nI (y + 1)))]) [2, 0] rfl ?_
              exact ih2 (y + 1) w178 hW179 (by omega) (by omega) ⟨_, k184, pf185, by (repeat rw [pk_un (by omega)]); rw [ed186]; (repeat rw [pk_un (by omega)]); exact ed4⟩ kp182
          · skip
            refine x_aload_n C dX12_dayGoes_42 rfl 1 rfl rfl ?_
            refine x_aload_n C dX12_dayGoes_43 rfl 1 rfl rfl ?_
            refine x_get C (ci := 11) (k := 35) 0 k165 rfl in_X12 (by decide) w_1153 rfl dX12_dayGoes_44 rfl ?_
            refine x_iconst C (v := 1) dX12_dayGoes_47 (by decide) rfl ?_
            refine x_iadd C (v := (v118 + (1 : Int32))) dX12_dayGoes_48 rfl rfl ?_
            refine x_any (fun v187 => ?_)
            obtain ⟨w188, hw189⟩ : ∃ w : va_W, w = List.set w158 0 (ob (a 0) 11 [.ref (a 1), .ref (a 2), .ref (a 3), .ref (a 4), .int (nI n98), .int (nI n100), .int (nI n102), .int v104, .int v105, .int v106, .int (nI n107), .int (nI n109), .int (nI n111), .int (nI (cd.2.2.2.2.2)), .ref (a 5), .ref (a 6), .ref (a 7), .ref (a 8), .ref (a 9), .ref (a 10), .ref (a 11), .ref (a 12), .ref (a 13), .ref (a 14), .ref (a 15), .ref (a 16), .ref (a 17), .int (nI n113), .ref (a 18), .ref (a 19), .ref (a 20), .ref (a 21), .int v115, .int v116, .int v117, .int v187, .int (nI n119), .int (nI n121), .ref (a 22), .ref (a 23), .ref (a 24), .ref (a 25), .ref (a 26), .ref (a 27), .ref (a 28), .ref (a 29), .ref (a 30), .int v123]) := ⟨_, rfl⟩
            refine x_put C (ci := 11) (k := 35) (ty := .int) 0 k165 rfl in_X12 tyX12 tyX12_ok nmX12 (by decide) w_1153 rfl rfl rfl rfl (Nat.le_of_ble_eq_true rfl) hw189.symm dX12_dayGoes_49 rfl ?_
            have hW190 : WX (okM E a cd) w188 := by rw [hw189]; exact hW159.set (k := 0) rfl ⟨n98, n100, n102, v104, v105, v106, n107, n109, n111, n113, v115, v116, v117, v187, n119, n121, v123, by omega, by omega, by omega, by omega, by omega, by omega, by omega, by omega, by omega, zv124, rfl⟩
            have k191 : w188[0]? = some (ob (a 0) 11 [.ref (a 1), .ref (a 2), .ref (a 3), .ref (a 4), .int (nI n98), .int (nI n100), .int (nI n102), .int v104, .int v105, .int v106, .int (nI n107), .int (nI n109), .int (nI n111), .int (nI (cd.2.2.2.2.2)), .ref (a 5), .ref (a 6), .ref (a 7), .ref (a 8), .ref (a 9), .ref (a 10), .ref (a 11), .ref (a 12), .ref (a 13), .ref (a 14), .ref (a 15), .ref (a 16), .ref (a 17), .int (nI n113), .ref (a 18), .ref (a 19), .ref (a 20), .ref (a 21), .int v115, .int v116, .int v117, .int v187, .int (nI n119), .int (nI n121), .ref (a 22), .ref (a 23), .ref (a 24), .ref (a 25), .ref (a 26), .ref (a 27), .ref (a 28), .ref (a 29), .ref (a 30), .int v123]) := by rw [hw189]; exact set_eq k165
            have k192 : w188[1]? = some (iA E (a 1) 382 (upd f1 380 v141)) := by rw [hw189]; exact set_ne k166 (by decide)
            have k193 : w188[17]? = some (iA E (a 17) 11 g153) := by rw [hw189]; exact set_ne k167 (by decide)
            have kp194 := keeps_set kp168 hw189 (by first | exact rfl | decide | omega | (dsimp only; omega))
            refine x_goto C (tgt := 73) dX12_dayGoes_52 (by decide) ?_
            refine x_iinc C (v := (nI (y + 1))) (lv' := [(1, .int (nI (y + 1))), (2, .int r134), (0, .ref (a 0))]) dX12_dayGoes_73 2 rfl (nI_add y 1) (by decide) rfl rfl ?_
            refine x_goto C (tgt := 2) dX12_dayGoes_76 (by decide) ?_
            refine x_lv (lv1 := [(0, .ref (a 0)), (1, .int (nI (y + 1)))]) [2, 0] rfl ?_
            exact ih2 (y + 1) w188 hW190 (by omega) (by omega) ⟨_, k192, pf143, by (repeat rw [pk_un (by omega)]); exact ed4⟩ kp194
        · skip
          refine x_goto C (tgt := 73) dX12_dayGoes_16 (by decide) ?_
          refine x_iinc C (v := (nI (y + 1))) (lv' := [(1, .int (nI (y + 1))), (0, .ref (a 0))]) dX12_dayGoes_73 1 rfl (nI_add y 1) (by decide) rfl rfl ?_
          refine x_goto C (tgt := 2) dX12_dayGoes_76 (by decide) ?_
          refine x_lv (lv1 := [(0, .ref (a 0)), (1, .int (nI (y + 1)))]) [1, 0] rfl ?_
          exact ih2 (y + 1) wl2 hWl2 (by omega) (by omega) ⟨_, k2, pf3, by (repeat rw [pk_un (by omega)]); exact ed4⟩ kq2
  refine x_lv (lv1 := [(0, .ref (a 0)), (1, .int 0)]) [1, 0] rfl ?_
  exact loop2 _ 0 ws hW (Nat.lt_succ_self _) (by omega) ⟨_, hfn, pfq, by (repeat rw [pk_un (by omega)]); exact hd0⟩ kp0
theorem dX12_daysGo_0 : decode cX12_daysGo 0 = .ok (.aload_n 0, 1) := by decide +kernel
theorem dX12_daysGo_1 : decode cX12_daysGo 1 = .ok (.iconst 0, 1) := by decide +kernel
theorem dX12_daysGo_2 : decode cX12_daysGo 2 = .ok (.putfield 310, 3) := by decide +kernel
theorem dX12_daysGo_5 : decode cX12_daysGo 5 = .ok (.aload_n 0, 1) := by decide +kernel
theorem dX12_daysGo_6 : decode cX12_daysGo 6 = .ok (.iconst 0, 1) := by decide +kernel
theorem dX12_daysGo_7 : decode cX12_daysGo 7 = .ok (.putfield 313, 3) := by decide +kernel
theorem dX12_daysGo_10 : decode cX12_daysGo 10 = .ok (.aload_n 0, 1) := by decide +kernel
theorem dX12_daysGo_11 : decode cX12_daysGo 11 = .ok (.iconst 0, 1) := by decide +kernel
theorem dX12_daysGo_12 : decode cX12_daysGo 12 = .ok (.putfield 322, 3) := by decide +kernel
theorem dX12_daysGo_15 : decode cX12_daysGo 15 = .ok (.aload_n 0, 1) := by decide +kernel
theorem dX12_daysGo_16 : decode cX12_daysGo 16 = .ok (.iconst 0, 1) := by decide +kernel
theorem dX12_daysGo_17 : decode cX12_daysGo 17 = .ok (.putfield 316, 3) := by decide +kernel
theorem dX12_daysGo_20 : decode cX12_daysGo 20 = .ok (.iconst 0, 1) := by decide +kernel
theorem dX12_daysGo_21 : decode cX12_daysGo 21 = .ok (.istore_n 2, 1) := by decide +kernel
theorem dX12_daysGo_22 : decode cX12_daysGo 22 = .ok (.iload_n 2, 1) := by decide +kernel
theorem dX12_daysGo_23 : decode cX12_daysGo 23 = .ok (.iload_n 1, 1) := by decide +kernel
theorem dX12_daysGo_24 : decode cX12_daysGo 24 = .ok (.if_icmp .ge 27, 3) := by decide +kernel
theorem dX12_daysGo_27 : decode cX12_daysGo 27 = .ok (.aload_n 0, 1) := by decide +kernel
theorem dX12_daysGo_28 : decode cX12_daysGo 28 = .ok (.getfield 7, 3) := by decide +kernel
theorem dX12_daysGo_31 : decode cX12_daysGo 31 = .ok (.sipush 379, 3) := by decide +kernel
theorem dX12_daysGo_34 : decode cX12_daysGo 34 = .ok (.iaload, 1) := by decide +kernel
theorem dX12_daysGo_35 : decode cX12_daysGo 35 = .ok (.sipush 9999, 3) := by decide +kernel
theorem dX12_daysGo_38 : decode cX12_daysGo 38 = .ok (.if_icmp .ge 13, 3) := by decide +kernel
theorem dX12_daysGo_41 : decode cX12_daysGo 41 = .ok (.aload_n 0, 1) := by decide +kernel
theorem dX12_daysGo_42 : decode cX12_daysGo 42 = .ok (.invokevirtual 325, 3) := by decide +kernel
theorem dX12_daysGo_45 : decode cX12_daysGo 45 = .ok (.iinc 2 1, 3) := by decide +kernel
theorem dX12_daysGo_48 : decode cX12_daysGo 48 = .ok (.goto (-26), 3) := by decide +kernel
theorem dX12_daysGo_51 : decode cX12_daysGo 51 = .ok (.return_, 1) := by decide +kernel
set_option maxRecDepth 20000 in
set_option maxHeartbeats 4000000 in
theorem m_daysGo (E : xE) (l : Launch) (a : Nat → Nat) (cd : Cd) (hG : Good cd) (ws : va_W) (hW : WX (okM E a cd) ws) (n0 : Nat) (hn0 : n0 ≤ 60) : xV E l yX12_daysGo cX12_daysGo 3 5 0 0 [.ref (a 0), .int (nI n0)] ws (fun w => WX (okM E a cd) w ∧ keeps ws w (fun q => q = 0 ∨ q = 1 ∨ q = 16 ∨ q = 17)) := by
  refine xV_start (lv := [(0, .ref (a 0)), (1, .int (nI n0))]) RX12 (by decide) rfl (Nat.le_of_ble_eq_true rfl) rfl (fun p e s m below meth c A C hr hlk hin => ?_)
  have kp0 : keeps ws ws (fun q => q = 0 ∨ q = 1 ∨ q = 16 ∨ q = 17) := keeps_rf
  refine x_aload_n C dX12_daysGo_0 rfl 0 rfl rfl ?_
  refine x_iconst C (v := 0) dX12_daysGo_1 (by decide) rfl ?_
  obtain ⟨_, k1, n2, n4, n6, v8, v9, v10, n11, n13, n15, n17, v19, v20, v21, v22, n23, n25, v27, bn3, bn5, bn7, bn12, bn14, bn16, bn18, bn24, bn26, zv28, rfl⟩ := hW 0 _ rfl
  obtain ⟨w29, hw30⟩ : ∃ w : va_W, w = List.set ws 0 (ob (a 0) 11 [.ref (a 1), .ref (a 2), .ref (a 3), .ref (a 4), .int (nI n2), .int (nI n4), .int (nI n6), .int v8, .int v9, .int v10, .int (nI n11), .int (nI n13), .int (nI n15), .int (nI (cd.2.2.2.2.2)), .ref (a 5), .ref (a 6), .ref (a 7), .ref (a 8), .ref (a 9), .ref (a 10), .ref (a 11), .ref (a 12), .ref (a 13), .ref (a 14), .ref (a 15), .ref (a 16), .ref (a 17), .int (nI n17), .ref (a 18), .ref (a 19), .ref (a 20), .ref (a 21), .int 0, .int v20, .int v21, .int v22, .int (nI n23), .int (nI n25), .ref (a 22), .ref (a 23), .ref (a 24), .ref (a 25), .ref (a 26), .ref (a 27), .ref (a 28), .ref (a 29), .ref (a 30), .int v27]) := ⟨_, rfl⟩
  refine x_put C (ci := 11) (k := 32) (ty := .int) 0 k1 rfl in_X12 tyX12 tyX12_ok nmX12 (by decide) w_1150 rfl rfl rfl rfl (Nat.le_of_ble_eq_true rfl) hw30.symm dX12_daysGo_2 rfl ?_
  have hW31 : WX (okM E a cd) w29 := by rw [hw30]; exact hW.set (k := 0) rfl ⟨n2, n4, n6, v8, v9, v10, n11, n13, n15, n17, (0 : Int32), v20, v21, v22, n23, n25, v27, by omega, by omega, by omega, by omega, by omega, by omega, by omega, by omega, by omega, zv28, rfl⟩
  have k32 : w29[0]? = some (ob (a 0) 11 [.ref (a 1), .ref (a 2), .ref (a 3), .ref (a 4), .int (nI n2), .int (nI n4), .int (nI n6), .int v8, .int v9, .int v10, .int (nI n11), .int (nI n13), .int (nI n15), .int (nI (cd.2.2.2.2.2)), .ref (a 5), .ref (a 6), .ref (a 7), .ref (a 8), .ref (a 9), .ref (a 10), .ref (a 11), .ref (a 12), .ref (a 13), .ref (a 14), .ref (a 15), .ref (a 16), .ref (a 17), .int (nI n17), .ref (a 18), .ref (a 19), .ref (a 20), .ref (a 21), .int 0, .int v20, .int v21, .int v22, .int (nI n23), .int (nI n25), .ref (a 22), .ref (a 23), .ref (a 24), .ref (a 25), .ref (a 26), .ref (a 27), .ref (a 28), .ref (a 29), .ref (a 30), .int v27]) := by rw [hw30]; exact set_eq k1
  have kp33 := keeps_set kp0 hw30 (by first | exact rfl | decide | omega | (dsimp only; omega))
  refine x_aload_n C dX12_daysGo_5 rfl 0 rfl rfl ?_
  refine x_iconst C (v := 0) dX12_daysGo_6 (by decide) rfl ?_
  obtain ⟨w34, hw35⟩ : ∃ w : va_W, w = List.set w29 0 (ob (a 0) 11 [.ref (a 1), .ref (a 2), .ref (a 3), .ref (a 4), .int (nI n2), .int (nI n4), .int (nI n6), .int v8, .int v9, .int v10, .int (nI n11), .int (nI n13), .int (nI n15), .int (nI (cd.2.2.2.2.2)), .ref (a 5), .ref (a 6), .ref (a 7), .ref (a 8), .ref (a 9), .ref (a 10), .ref (a 11), .ref (a 12), .ref (a 13), .ref (a 14), .ref (a 15), .ref (a 16), .ref (a 17), .int (nI n17), .ref (a 18), .ref (a 19), .ref (a 20), .ref (a 21), .int 0, .int 0, .int v21, .int v22, .int (nI n23), .int (nI n25), .ref (a 22), .ref (a 23), .ref (a 24), .ref (a 25), .ref (a 26), .ref (a 27), .ref (a 28), .ref (a 29), .ref (a 30), .int v27]) := ⟨_, rfl⟩
  refine x_put C (ci := 11) (k := 33) (ty := .int) 0 k32 rfl in_X12 tyX12 tyX12_ok nmX12 (by decide) w_1151 rfl rfl rfl rfl (Nat.le_of_ble_eq_true rfl) hw35.symm dX12_daysGo_7 rfl ?_
  have hW36 : WX (okM E a cd) w34 := by rw [hw35]; exact hW31.set (k := 0) rfl ⟨n2, n4, n6, v8, v9, v10, n11, n13, n15, n17, (0 : Int32), (0 : Int32), v21, v22, n23, n25, v27, by omega, by omega, by omega, by omega, by omega, by omega, by omega, by omega, by omega, zv28, rfl⟩
  have k37 : w34[0]? = some (ob (a 0) 11 [.ref (a 1), .ref (a 2), .ref (a 3), .ref (a 4), .int (nI n2), .int (nI n4), .int (nI n6), .int v8, .int v9, .int v10, .int (nI n11), .int (nI n13), .int (nI n15), .int (nI (cd.2.2.2.2.2)), .ref (a 5), .ref (a 6), .ref (a 7), .ref (a 8), .ref (a 9), .ref (a 10), .ref (a 11), .ref (a 12), .ref (a 13), .ref (a 14), .ref (a 15), .ref (a 16), .ref (a 17), .int (nI n17), .ref (a 18), .ref (a 19), .ref (a 20), .ref (a 21), .int 0, .int 0, .int v21, .int v22, .int (nI n23), .int (nI n25), .ref (a 22), .ref (a 23), .ref (a 24), .ref (a 25), .ref (a 26), .ref (a 27), .ref (a 28), .ref (a 29), .ref (a 30), .int v27]) := by rw [hw35]; exact set_eq k32
  have kp38 := keeps_set kp33 hw35 (by first | exact rfl | decide | omega | (dsimp only; omega))
  refine x_aload_n C dX12_daysGo_10 rfl 0 rfl rfl ?_
  refine x_iconst C (v := 0) dX12_daysGo_11 (by decide) rfl ?_
  obtain ⟨w39, hw40⟩ : ∃ w : va_W, w = List.set w34 0 (ob (a 0) 11 [.ref (a 1), .ref (a 2), .ref (a 3), .ref (a 4), .int (nI n2), .int (nI n4), .int (nI n6), .int v8, .int v9, .int v10, .int (nI n11), .int (nI n13), .int (nI n15), .int (nI (cd.2.2.2.2.2)), .ref (a 5), .ref (a 6), .ref (a 7), .ref (a 8), .ref (a 9), .ref (a 10), .ref (a 11), .ref (a 12), .ref (a 13), .ref (a 14), .ref (a 15), .ref (a 16), .ref (a 17), .int (nI n17), .ref (a 18), .ref (a 19), .ref (a 20), .ref (a 21), .int 0, .int 0, .int 0, .int v22, .int (nI n23), .int (nI n25), .ref (a 22), .ref (a 23), .ref (a 24), .ref (a 25), .ref (a 26), .ref (a 27), .ref (a 28), .ref (a 29), .ref (a 30), .int v27]) := ⟨_, rfl⟩
  refine x_put C (ci := 11) (k := 34) (ty := .int) 0 k37 rfl in_X12 tyX12 tyX12_ok nmX12 (by decide) w_1152 rfl rfl rfl rfl (Nat.le_of_ble_eq_true rfl) hw40.symm dX12_daysGo_12 rfl ?_
  have hW41 : WX (okM E a cd) w39 := by rw [hw40]; exact hW36.set (k := 0) rfl ⟨n2, n4, n6, v8, v9, v10, n11, n13, n15, n17, (0 : Int32), (0 : Int32), (0 : Int32), v22, n23, n25, v27, by omega, by omega, by omega, by omega, by omega, by omega, by omega, by omega, by omega, zv28, rfl⟩
  have k42 : w39[0]? = some (ob (a 0) 11 [.ref (a 1), .ref (a 2), .ref (a 3), .ref (a 4), .int (nI n2), .int (nI n4), .int (nI n6), .int v8, .int v9, .int v10, .int (nI n11), .int (nI n13), .int (nI n15), .int (nI (cd.2.2.2.2.2)), .ref (a 5), .ref (a 6), .ref (a 7), .ref (a 8), .ref (a 9), .ref (a 10), .ref (a 11), .ref (a 12), .ref (a 13), .ref (a 14), .ref (a 15), .ref (a 16), .ref (a 17), .int (nI n17), .ref (a 18), .ref (a 19), .ref (a 20), .ref (a 21), .int 0, .int 0, .int 0, .int v22, .int (nI n23), .int (nI n25), .ref (a 22), .ref (a 23), .ref (a 24), .ref (a 25), .ref (a 26), .ref (a 27), .ref (a 28), .ref (a 29), .ref (a 30), .int v27]) := by rw [hw40]; exact set_eq k37
  have kp43 := keeps_set kp38 hw40 (by first | exact rfl | decide | omega | (dsimp only; omega))
  refine x_aload_n C dX12_daysGo_15 rfl 0 rfl rfl ?_
  refine x_iconst C (v := 0) dX12_daysGo_16 (by decide) rfl ?_
  obtain ⟨w44, hw45⟩ : ∃ w : va_W, w = List.set w39 0 (ob (a 0) 11 [.ref (a 1), .ref (a 2), .ref (a 3), .ref (a 4), .int (nI n2), .int (nI n4), .int (nI n6), .int v8, .int v9, .int v10, .int (nI n11), .int (nI n13), .int (nI n15), .int (nI (cd.2.2.2.2.2)), .ref (a 5), .ref (a 6), .ref (a 7), .ref (a 8), .ref (a 9), .ref (a 10), .ref (a 11), .ref (a 12), .ref (a 13), .ref (a 14), .ref (a 15), .ref (a 16), .ref (a 17), .int (nI n17), .ref (a 18), .ref (a 19), .ref (a 20), .ref (a 21), .int 0, .int 0, .int 0, .int 0, .int (nI n23), .int (nI n25), .ref (a 22), .ref (a 23), .ref (a 24), .ref (a 25), .ref (a 26), .ref (a 27), .ref (a 28), .ref (a 29), .ref (a 30), .int v27]) := ⟨_, rfl⟩
  refine x_put C (ci := 11) (k := 35) (ty := .int) 0 k42 rfl in_X12 tyX12 tyX12_ok nmX12 (by decide) w_1153 rfl rfl rfl rfl (Nat.le_of_ble_eq_true rfl) hw45.symm dX12_daysGo_17 rfl ?_
  have hW46 : WX (okM E a cd) w44 := by rw [hw45]; exact hW41.set (k := 0) rfl ⟨n2, n4, n6, v8, v9, v10, n11, n13, n15, n17, (0 : Int32), (0 : Int32), (0 : Int32), (0 : Int32), n23, n25, v27, by omega, by omega, by omega, by omega, by omega, by omega, by omega, by omega, by omega, zv28, rfl⟩
  have k47 : w44[0]? = some (ob (a 0) 11 [.ref (a 1), .ref (a 2), .ref (a 3), .ref (a 4), .int (nI n2), .int (nI n4), .int (nI n6), .int v8, .int v9, .int v10, .int (nI n11), .int (nI n13), .int (nI n15), .int (nI (cd.2.2.2.2.2)), .ref (a 5), .ref (a 6), .ref (a 7), .ref (a 8), .ref (a 9), .ref (a 10), .ref (a 11), .ref (a 12), .ref (a 13), .ref (a 14), .ref (a 15), .ref (a 16), .ref (a 17), .int (nI n17), .ref (a 18), .ref (a 19), .ref (a 20), .ref (a 21), .int 0, .int 0, .int 0, .int 0, .int (nI n23), .int (nI n25), .ref (a 22), .ref (a 23), .ref (a 24), .ref (a 25), .ref (a 26), .ref (a 27), .ref (a 28), .ref (a 29), .ref (a 30), .int v27]) := by rw [hw45]; exact set_eq k42
  have kp48 := keeps_set kp43 hw45 (by first | exact rfl | decide | omega | (dsimp only; omega))
  refine x_iconst C (v := 0) dX12_daysGo_20 (by decide) rfl ?_
  refine x_istore_n C (lv' := [(2, .int 0), (0, .ref (a 0)), (1, .int (nI n0))]) dX12_daysGo_21 rfl (by decide) rfl rfl ?_
  have loop22 : ∀ (fu22 : Nat) (k : Nat) (wl22 : va_W), WX (okM E a cd) wl22 → 60 - k < fu22 → k ≤ 60 → keeps ws wl22 (fun q => q = 0 ∨ q = 1 ∨ q = 16 ∨ q = 17) → X E p l e (xRm 5 0 0) s m ([.ref (a 0), .int (nI n0)] : List Value).toArray below meth c A 3 0 0 (MQ below (va_Qv (fun w => WX (okM E a cd) w ∧ keeps ws w (fun q => q = 0 ∨ q = 1 ∨ q = 16 ∨ q = 17)) (xB E A) A) ([.ref (a 0), .int (nI n0)] : List Value).toArray s 0 0 A) wl22 22 [(0, .ref (a 0)), (1, .int (nI n0)), (2, .int (nI k))] [] := by
    intro fu22
    induction fu22 with
    | zero => intro k wl22 _ q; omega
    | succ fu22 ih22 =>
      intro k wl22 hWl22 me22 iv22_0 kq22
      refine x_iload_n C dX12_daysGo_22 rfl 2 rfl rfl ?_
      refine x_iload_n C dX12_daysGo_23 rfl 1 rfl rfl ?_
      refine x_icmp_ge C (tgt := 51) dX12_daysGo_24 (by decide) rfl (fun c49 => ?_) (fun c49 => ?_)
      · skip
        have nf50 := nI_le' (a := n0) (b := k) c49 (by omega) (by omega)
        exact x_vret C hr hlk dX12_daysGo_51 ⟨hWl22, kq22⟩
      · skip
        have nf51 := nI_nle' (a := n0) (b := k) c49 (by omega) (by omega)
        refine x_aload_n C dX12_daysGo_27 rfl 0 rfl rfl ?_
        obtain ⟨_, k52, n53, n55, n57, v59, v60, v61, n62, n64, n66, n68, v70, v71, v72, v73, n74, n76, v78, bn54, bn56, bn58, bn63, bn65, bn67, bn69, bn75, bn77, zv79, rfl⟩ := hWl22 0 _ rfl
        refine x_get C (ci := 11) (k := 0) 0 k52 rfl in_X12 (by decide) w_1118 rfl dX12_daysGo_28 rfl ?_
        refine x_sipush C (v := 379) dX12_daysGo_31 (by decide) rfl ?_
        obtain ⟨_, k80, f81, pf82, rfl⟩ := hWl22 1 _ rfl
        obtain ⟨n83, hn84, en85⟩ := NB_day pf82
        refine x_ialk C (v := nI n83) 379 (by decide) (by decide) (by decide) 1 k80 en85 dX12_daysGo_34 rfl ?_
        refine x_sipush C (v := 9999) dX12_daysGo_35 (by decide) rfl ?_
        refine x_icmp_ge C (tgt := 51) dX12_daysGo_38 (by decide) rfl (fun c86 => ?_) (fun c86 => ?_)
        · skip
          have nf87 := nI_le' (a := 9999) (b := n83) c86 (by omega) (by omega)
          exact x_vret C hr hlk dX12_daysGo_51 ⟨hWl22, kq22⟩
        · skip
          have nf88 := nI_nle' (a := 9999) (b := n83) c86 (by omega) (by omega)
          refine x_aload_n C dX12_daysGo_41 rfl 0 rfl rfl ?_
          refine x_vv C (As := []) (rest := []) (m_dayGoes E l a cd hG wl22 hWl22 f81 k80 n83 (by omega) en85) mf_X12_dayGoes w_1501 0 k52 rfl rfl rfl (Nat.le_of_ble_eq_true rfl) ⟨(Nat.le_of_ble_eq_true rfl), (Nat.le_of_ble_eq_true rfl)⟩ ⟨(Nat.le_of_ble_eq_true rfl), (Nat.le_of_ble_eq_true rfl)⟩ dX12_daysGo_42 rfl (fun w91 h89 => ?_)
          obtain ⟨hW92, kq93⟩ := h89
          have kp94 := keeps_tr kq22 kq93 (fun q hq => by first | omega | (dsimp only at *; omega))
          refine x_iinc C (v := (nI (k + 1))) (lv' := [(2, .int (nI (k + 1))), (0, .ref (a 0)), (1, .int (nI n0))]) dX12_daysGo_45 2 rfl (nI_add k 1) (by decide) rfl rfl ?_
          refine x_goto C (tgt := 22) dX12_daysGo_48 (by decide) ?_
          refine x_lv (lv1 := [(0, .ref (a 0)), (1, .int (nI n0)), (2, .int (nI (k + 1)))]) [1, 2, 0] rfl ?_
          exact ih22 (k + 1) w91 hW92 (by omega) (by omega) kp94
  refine x_lv (lv1 := [(0, .ref (a 0)), (1, .int (nI n0)), (2, .int 0)]) [1, 2, 0] rfl ?_
  exact loop22 _ 0 w44 hW46 (Nat.lt_succ_self _) (by omega) kp48
theorem dX12_days_0 : decode cX12_days 0 = .ok (.iload_n 1, 1) := by decide +kernel
theorem dX12_days_1 : decode cX12_days 1 = .ok (.iconst 1, 1) := by decide +kernel
theorem dX12_days_2 : decode cX12_days 2 = .ok (.bipush 60, 2) := by decide +kernel
theorem dX12_days_4 : decode cX12_days 4 = .ok (.invokestatic 109, 3) := by decide +kernel
theorem dX12_days_7 : decode cX12_days 7 = .ok (.ifCond .ne 5, 3) := by decide +kernel
theorem dX12_days_10 : decode cX12_days 10 = .ok (.iconst (-1), 1) := by decide +kernel
theorem dX12_days_11 : decode cX12_days 11 = .ok (.ireturn, 1) := by decide +kernel
theorem dX12_days_12 : decode cX12_days 12 = .ok (.aload_n 0, 1) := by decide +kernel
theorem dX12_days_13 : decode cX12_days 13 = .ok (.iload_n 1, 1) := by decide +kernel
theorem dX12_days_14 : decode cX12_days 14 = .ok (.invokevirtual 328, 3) := by decide +kernel
theorem dX12_days_17 : decode cX12_days 17 = .ok (.aload_n 0, 1) := by decide +kernel
theorem dX12_days_18 : decode cX12_days 18 = .ok (.getfield 310, 3) := by decide +kernel
theorem dX12_days_21 : decode cX12_days 21 = .ok (.ireturn, 1) := by decide +kernel
set_option maxRecDepth 20000 in
set_option maxHeartbeats 4000000 in
theorem m_days (E : xE) (l : Launch) (a : Nat → Nat) (cd : Cd) (hG : Good cd) (ws : va_W) (hW : WX (okM E a cd) ws) (p0 : Int32) : xI E l yX12_days cX12_days 2 (some .int) 8 [.ref (a 0), .int p0] ws (fun r w => WX (okM E a cd) w) := by
  refine xI_start (lv := [(0, .ref (a 0)), (1, .int p0)]) RX12 (by decide) rfl (Nat.le_of_ble_eq_true rfl) rfl (fun p e s m below meth c A C hr hlk => ?_)
  refine x_iload_n C dX12_days_0 rfl 1 rfl rfl ?_
  refine x_iconst C (v := 1) dX12_days_1 (by decide) rfl ?_
  refine x_bipush C (v := 60) dX12_days_2 (by decide) rfl ?_
  refine x_si C (As := [.int p0, .int 1, .int 60]) (rest := []) (m_in E l a cd hG ws hW p0 (1 : Int32) (60 : Int32)) mf_X12_in w_1267 rfl rfl (Nat.le_of_ble_eq_true rfl) ⟨(Nat.le_of_ble_eq_true rfl), (Nat.le_of_ble_eq_true rfl)⟩ ⟨(Nat.le_of_ble_eq_true rfl), (Nat.le_of_ble_eq_true rfl)⟩ dX12_days_4 rfl (fun r2 w3 h1 => ?_)
  obtain ⟨hW4, zb5, x6⟩ := h1
  refine x_ws hW4 ?_
  refine x_if_ne C (tgt := 12) dX12_days_7 (by decide) rfl (fun c7 => ?_) (fun c7 => ?_)
  · skip
    obtain ⟨j8, hl9, hh10, ej11⟩ := w_nat (a := 1) (b := 60) (by decide) (by decide) (x6 c7)
    subst ej11
    refine x_aload_n C dX12_days_12 rfl 0 rfl rfl ?_
    refine x_iload_n C dX12_days_13 rfl 1 rfl rfl ?_
    obtain ⟨_, k12, n13, n15, n17, v19, v20, v21, n22, n24, n26, n28, v30, v31, v32, v33, n34, n36, v38, bn14, bn16, bn18, bn23, bn25, bn27, bn29, bn35, bn37, zv39, rfl⟩ := hW 0 _ rfl
    refine x_vv C (As := [.int (nI j8)]) (rest := []) (m_daysGo E l a cd hG ws hW j8 (by omega)) mf_X12_daysGo w_1497 0 k12 rfl rfl rfl (Nat.le_of_ble_eq_true rfl) ⟨(Nat.le_of_ble_eq_true rfl), (Nat.le_of_ble_eq_true rfl)⟩ ⟨(Nat.le_of_ble_eq_true rfl), (Nat.le_of_ble_eq_true rfl)⟩ dX12_days_14 rfl (fun w42 h40 => ?_)
    obtain ⟨hW43, kq44⟩ := h40
    refine x_aload_n C dX12_days_17 rfl 0 rfl rfl ?_
    obtain ⟨_, k45, n46, n48, n50, v52, v53, v54, n55, n57, n59, n61, v63, v64, v65, v66, n67, n69, v71, bn47, bn49, bn51, bn56, bn58, bn60, bn62, bn68, bn70, zv72, rfl⟩ := hW43 0 _ rfl
    refine x_get C (ci := 11) (k := 32) 0 k45 rfl in_X12 (by decide) w_1150 rfl dX12_days_18 rfl ?_
    exact x_zret C hr hlk rfl dX12_days_21 hW43
  · skip
    refine x_iconst C (v := (-1)) dX12_days_10 (by decide) rfl ?_
    exact x_zret C hr hlk rfl dX12_days_11 hW
theorem dX12_tried_0 : decode cX12_tried 0 = .ok (.iload_n 1, 1) := by decide +kernel
theorem dX12_tried_1 : decode cX12_tried 1 = .ok (.iconst 1, 1) := by decide +kernel
theorem dX12_tried_2 : decode cX12_tried 2 = .ok (.bipush 60, 2) := by decide +kernel
theorem dX12_tried_4 : decode cX12_tried 4 = .ok (.invokestatic 109, 3) := by decide +kernel
theorem dX12_tried_7 : decode cX12_tried 7 = .ok (.ifCond .eq 12, 3) := by decide +kernel
theorem dX12_tried_10 : decode cX12_tried 10 = .ok (.iload_n 2, 1) := by decide +kernel
theorem dX12_tried_11 : decode cX12_tried 11 = .ok (.iconst 0, 1) := by decide +kernel
theorem dX12_tried_12 : decode cX12_tried 12 = .ok (.iconst 4, 1) := by decide +kernel
theorem dX12_tried_13 : decode cX12_tried 13 = .ok (.invokestatic 109, 3) := by decide +kernel
theorem dX12_tried_16 : decode cX12_tried 16 = .ok (.ifCond .ne 5, 3) := by decide +kernel
theorem dX12_tried_19 : decode cX12_tried 19 = .ok (.iconst (-1), 1) := by decide +kernel
theorem dX12_tried_20 : decode cX12_tried 20 = .ok (.ireturn, 1) := by decide +kernel
theorem dX12_tried_21 : decode cX12_tried 21 = .ok (.aload_n 0, 1) := by decide +kernel
theorem dX12_tried_22 : decode cX12_tried 22 = .ok (.getfield 7, 3) := by decide +kernel
theorem dX12_tried_25 : decode cX12_tried 25 = .ok (.aload_n 0, 1) := by decide +kernel
theorem dX12_tried_26 : decode cX12_tried 26 = .ok (.getfield 13, 3) := by decide +kernel
theorem dX12_tried_29 : decode cX12_tried 29 = .ok (.invokestatic 299, 3) := by decide +kernel
theorem dX12_tried_32 : decode cX12_tried 32 = .ok (.aload_n 0, 1) := by decide +kernel
theorem dX12_tried_33 : decode cX12_tried 33 = .ok (.iload_n 1, 1) := by decide +kernel
theorem dX12_tried_34 : decode cX12_tried 34 = .ok (.invokevirtual 328, 3) := by decide +kernel
theorem dX12_tried_37 : decode cX12_tried 37 = .ok (.iload_n 2, 1) := by decide +kernel
theorem dX12_tried_38 : decode cX12_tried 38 = .ok (.ifCond .ne 10, 3) := by decide +kernel
theorem dX12_tried_41 : decode cX12_tried 41 = .ok (.aload_n 0, 1) := by decide +kernel
theorem dX12_tried_42 : decode cX12_tried 42 = .ok (.getfield 310, 3) := by decide +kernel
theorem dX12_tried_45 : decode cX12_tried 45 = .ok (.goto 44, 3) := by decide +kernel
theorem dX12_tried_48 : decode cX12_tried 48 = .ok (.iload_n 2, 1) := by decide +kernel
theorem dX12_tried_49 : decode cX12_tried 49 = .ok (.iconst 1, 1) := by decide +kernel
theorem dX12_tried_50 : decode cX12_tried 50 = .ok (.if_icmp .ne 10, 3) := by decide +kernel
theorem dX12_tried_53 : decode cX12_tried 53 = .ok (.aload_n 0, 1) := by decide +kernel
theorem dX12_tried_54 : decode cX12_tried 54 = .ok (.getfield 313, 3) := by decide +kernel
theorem dX12_tried_57 : decode cX12_tried 57 = .ok (.goto 32, 3) := by decide +kernel
theorem dX12_tried_60 : decode cX12_tried 60 = .ok (.iload_n 2, 1) := by decide +kernel
theorem dX12_tried_61 : decode cX12_tried 61 = .ok (.iconst 2, 1) := by decide +kernel
theorem dX12_tried_62 : decode cX12_tried 62 = .ok (.if_icmp .ne 10, 3) := by decide +kernel
theorem dX12_tried_65 : decode cX12_tried 65 = .ok (.aload_n 0, 1) := by decide +kernel
theorem dX12_tried_66 : decode cX12_tried 66 = .ok (.getfield 322, 3) := by decide +kernel
theorem dX12_tried_69 : decode cX12_tried 69 = .ok (.goto 20, 3) := by decide +kernel
theorem dX12_tried_72 : decode cX12_tried 72 = .ok (.iload_n 2, 1) := by decide +kernel
theorem dX12_tried_73 : decode cX12_tried 73 = .ok (.iconst 3, 1) := by decide +kernel
theorem dX12_tried_74 : decode cX12_tried 74 = .ok (.if_icmp .ne 10, 3) := by decide +kernel
theorem dX12_tried_77 : decode cX12_tried 77 = .ok (.aload_n 0, 1) := by decide +kernel
theorem dX12_tried_78 : decode cX12_tried 78 = .ok (.getfield 316, 3) := by decide +kernel
theorem dX12_tried_81 : decode cX12_tried 81 = .ok (.goto 8, 3) := by decide +kernel
theorem dX12_tried_84 : decode cX12_tried 84 = .ok (.aload_n 0, 1) := by decide +kernel
theorem dX12_tried_85 : decode cX12_tried 85 = .ok (.iconst 0, 1) := by decide +kernel
theorem dX12_tried_86 : decode cX12_tried 86 = .ok (.invokevirtual 331, 3) := by decide +kernel
theorem dX12_tried_89 : decode cX12_tried 89 = .ok (.istore_n 3, 1) := by decide +kernel
theorem dX12_tried_90 : decode cX12_tried 90 = .ok (.aload_n 0, 1) := by decide +kernel
theorem dX12_tried_91 : decode cX12_tried 91 = .ok (.getfield 13, 3) := by decide +kernel
theorem dX12_tried_94 : decode cX12_tried 94 = .ok (.aload_n 0, 1) := by decide +kernel
theorem dX12_tried_95 : decode cX12_tried 95 = .ok (.getfield 7, 3) := by decide +kernel
theorem dX12_tried_98 : decode cX12_tried 98 = .ok (.invokestatic 299, 3) := by decide +kernel
theorem dX12_tried_101 : decode cX12_tried 101 = .ok (.iload_n 3, 1) := by decide +kernel
theorem dX12_tried_102 : decode cX12_tried 102 = .ok (.ireturn, 1) := by decide +kernel
set_option maxRecDepth 20000 in
set_option maxHeartbeats 4000000 in
theorem m_tried (E : xE) (l : Launch) (a : Nat → Nat) (cd : Cd) (hG : Good cd) (ws : va_W) (hW : WX (okM E a cd) ws) (p0 : Int32) (p1 : Int32) : xI E l yX12_tried cX12_tried 4 (some .int) 8 [.ref (a 0), .int p0, .int p1] ws (fun r w => WX (okM E a cd) w) := by
  refine xI_start (lv := [(0, .ref (a 0)), (1, .int p0), (2, .int p1)]) RX12 (by decide) rfl (Nat.le_of_ble_eq_true rfl) rfl (fun p e s m below meth c A C hr hlk => ?_)
  refine x_iload_n C dX12_tried_0 rfl 1 rfl rfl ?_
  refine x_iconst C (v := 1) dX12_tried_1 (by decide) rfl ?_
  refine x_bipush C (v := 60) dX12_tried_2 (by decide) rfl ?_
  refine x_si C (As := [.int p0, .int 1, .int 60]) (rest := []) (m_in E l a cd hG ws hW p0 (1 : Int32) (60 : Int32)) mf_X12_in w_1267 rfl rfl (Nat.le_of_ble_eq_true rfl) ⟨(Nat.le_of_ble_eq_true rfl), (Nat.le_of_ble_eq_true rfl)⟩ ⟨(Nat.le_of_ble_eq_true rfl), (Nat.le_of_ble_eq_true rfl)⟩ dX12_tried_4 rfl (fun r2 w3 h1 => ?_)
  obtain ⟨hW4, zb5, x6⟩ := h1
  refine x_ws hW4 ?_
  refine x_if_eq C (tgt := 19) dX12_tried_7 (by decide) rfl (fun c7 => ?_) (fun c7 => ?_)
  · skip
    refine x_iconst C (v := (-1)) dX12_tried_19 (by decide) rfl ?_
    exact x_zret C hr hlk rfl dX12_tried_20 hW
  · skip
    obtain ⟨j8, hl9, hh10, ej11⟩ := w_nat (a := 1) (b := 60) (by decide) (by decide) (x6 c7)
    subst ej11
    refine x_iload_n C dX12_tried_10 rfl 2 rfl rfl ?_
    refine x_iconst C (v := 0) dX12_tried_11 (by decide) rfl ?_
    refine x_iconst C (v := 4) dX12_tried_12 (by decide) rfl ?_
    refine x_si C (As := [.int p1, .int 0, .int 4]) (rest := []) (m_in E l a cd hG ws hW p1 (0 : Int32) (4 : Int32)) mf_X12_in w_1267 rfl rfl (Nat.le_of_ble_eq_true rfl) ⟨(Nat.le_of_ble_eq_true rfl), (Nat.le_of_ble_eq_true rfl)⟩ ⟨(Nat.le_of_ble_eq_true rfl), (Nat.le_of_ble_eq_true rfl)⟩ dX12_tried_13 rfl (fun r13 w14 h12 => ?_)
    obtain ⟨hW15, zb16, x17⟩ := h12
    refine x_ws hW15 ?_
    refine x_if_ne C (tgt := 21) dX12_tried_16 (by decide) rfl (fun c18 => ?_) (fun c18 => ?_)
    · skip
      obtain ⟨j19, hl20, hh21, ej22⟩ := w_nat (a := 0) (b := 4) (by decide) (by decide) (x17 c18)
      subst ej22
      refine x_aload_n C dX12_tried_21 rfl 0 rfl rfl ?_
      obtain ⟨_, k23, n24, n26, n28, v30, v31, v32, n33, n35, n37, n39, v41, v42, v43, v44, n45, n47, v49, bn25, bn27, bn29, bn34, bn36, bn38, bn40, bn46, bn48, zv50, rfl⟩ := hW 0 _ rfl
      refine x_get C (ci := 11) (k := 0) 0 k23 rfl in_X12 (by decide) w_1118 rfl dX12_tried_22 rfl ?_
      refine x_aload_n C dX12_tried_25 rfl 0 rfl rfl ?_
      refine x_get C (ci := 11) (k := 1) 0 k23 rfl in_X12 (by decide) w_1119 rfl dX12_tried_26 rfl ?_
      refine x_sv C (As := [.ref (a 1), .ref (a 2)]) (rest := []) (m_copies12 E l a cd hG ws hW) mf_X12_copies w_1490 rfl rfl (Nat.le_of_ble_eq_true rfl) ⟨(Nat.le_of_ble_eq_true rfl), (Nat.le_of_ble_eq_true rfl)⟩ ⟨(Nat.le_of_ble_eq_true rfl), (Nat.le_of_ble_eq_true rfl)⟩ dX12_tried_29 rfl (fun w53 h51 => ?_)
      obtain ⟨hW54, kq55⟩ := h51
      have k56 : w53[0]? = some (ob (a 0) 11 [.ref (a 1), .ref (a 2), .ref (a 3), .ref (a 4), .int (nI n24), .int (nI n26), .int (nI n28), .int v30, .int v31, .int v32, .int (nI n33), .int (nI n35), .int (nI n37), .int (nI (cd.2.2.2.2.2)), .ref (a 5), .ref (a 6), .ref (a 7), .ref (a 8), .ref (a 9), .ref (a 10), .ref (a 11), .ref (a 12), .ref (a 13), .ref (a 14), .ref (a 15), .ref (a 16), .ref (a 17), .int (nI n39), .ref (a 18), .ref (a 19), .ref (a 20), .ref (a 21), .int v41, .int v42, .int v43, .int v44, .int (nI n45), .int (nI n47), .ref (a 22), .ref (a 23), .ref (a 24), .ref (a 25), .ref (a 26), .ref (a 27), .ref (a 28), .ref (a 29), .ref (a 30), .int v49]) := keeps_at kq55 k23 (by first | decide | omega | (dsimp only; omega))
      refine x_aload_n C dX12_tried_32 rfl 0 rfl rfl ?_
      refine x_iload_n C dX12_tried_33 rfl 1 rfl rfl ?_
      refine x_vv C (As := [.int (nI j8)]) (rest := []) (m_daysGo E l a cd hG w53 hW54 j8 (by omega)) mf_X12_daysGo w_1497 0 k56 rfl rfl rfl (Nat.le_of_ble_eq_true rfl) ⟨(Nat.le_of_ble_eq_true rfl), (Nat.le_of_ble_eq_true rfl)⟩ ⟨(Nat.le_of_ble_eq_true rfl), (Nat.le_of_ble_eq_true rfl)⟩ dX12_tried_34 rfl (fun w59 h57 => ?_)
      obtain ⟨hW60, kq61⟩ := h57
      refine x_iload_n C dX12_tried_37 rfl 2 rfl rfl ?_
      refine x_if_ne C (tgt := 48) dX12_tried_38 (by decide) rfl (fun c62 => ?_) (fun c62 => ?_)
      · skip
        have nf63 : ¬ j19 = 0 := fun q => c62 (congrArg nI q)
        refine x_iload_n C dX12_tried_48 rfl 2 rfl rfl ?_
        refine x_iconst C (v := 1) dX12_tried_49 (by decide) rfl ?_
        refine x_icmp_ne C (tgt := 60) dX12_tried_50 (by decide) rfl (fun c64 => ?_) (fun c64 => ?_)
        · skip
          have nf65 : ¬ j19 = 1 := fun q => c64 (congrArg nI q)
          refine x_iload_n C dX12_tried_60 rfl 2 rfl rfl ?_
          refine x_iconst C (v := 2) dX12_tried_61 (by decide) rfl ?_
          refine x_icmp_ne C (tgt := 72) dX12_tried_62 (by decide) rfl (fun c66 => ?_) (fun c66 => ?_)
          · skip
            have nf67 : ¬ j19 = 2 := fun q => c66 (congrArg nI q)
            refine x_iload_n C dX12_tried_72 rfl 2 rfl rfl ?_
            refine x_iconst C (v := 3) dX12_tried_73 (by decide) rfl ?_
            refine x_icmp_ne C (tgt := 84) dX12_tried_74 (by decide) rfl (fun c68 => ?_) (fun c68 => ?_)
            · skip
              have nf69 : ¬ j19 = 3 := fun q => c68 (congrArg nI q)
              refine x_aload_n C dX12_tried_84 rfl 0 rfl rfl ?_
              refine x_iconst C (v := 0) dX12_tried_85 (by decide) rfl ?_
              obtain ⟨_, k70, n71, n73, n75, v77, v78, v79, n80, n82, n84, n86, v88, v89, v90, v91, n92, n94, v96, bn72, bn74, bn76, bn81, bn83, bn85, bn87, bn93, bn95, zv97, rfl⟩ := hW60 0 _ rfl
              refine x_vi C (As := [.int 0]) (rest := []) (m_howMany E l a cd hG w59 hW60 (0 : Int32)) mf_X12_howMany w_1526 0 k70 rfl rfl rfl (Nat.le_of_ble_eq_true rfl) ⟨(Nat.le_of_ble_eq_true rfl), (Nat.le_of_ble_eq_true rfl)⟩ ⟨(Nat.le_of_ble_eq_true rfl), (Nat.le_of_ble_eq_true rfl)⟩ dX12_tried_86 rfl (fun r99 w100 h98 => ?_)
              have hW101 := h98
              refine x_ws hW101 ?_
              refine x_istore_n C (lv' := [(3, .int r99), (0, .ref (a 0)), (1, .int (nI j8)), (2, .int (nI j19))]) dX12_tried_89 rfl (by decide) rfl rfl ?_
              refine x_aload_n C dX12_tried_90 rfl 1 rfl rfl ?_
              refine x_get C (ci := 11) (k := 1) 0 k70 rfl in_X12 (by decide) w_1119 rfl dX12_tried_91 rfl ?_
              refine x_aload_n C dX12_tried_94 rfl 1 rfl rfl ?_
              refine x_get C (ci := 11) (k := 0) 0 k70 rfl in_X12 (by decide) w_1118 rfl dX12_tried_95 rfl ?_
              refine x_sv C (As := [.ref (a 2), .ref (a 1)]) (rest := []) (m_copies21 E l a cd hG w59 hW60) mf_X12_copies w_1490 rfl rfl (Nat.le_of_ble_eq_true rfl) ⟨(Nat.le_of_ble_eq_true rfl), (Nat.le_of_ble_eq_true rfl)⟩ ⟨(Nat.le_of_ble_eq_true rfl), (Nat.le_of_ble_eq_true rfl)⟩ dX12_tried_98 rfl (fun w104 h102 => ?_)
              obtain ⟨hW105, kq106⟩ := h102
              have k107 : w104[0]? = some (ob (a 0) 11 [.ref (a 1), .ref (a 2), .ref (a 3), .ref (a 4), .int (nI n71), .int (nI n73), .int (nI n75), .int v77, .int v78, .int v79, .int (nI n80), .int (nI n82), .int (nI n84), .int (nI (cd.2.2.2.2.2)), .ref (a 5), .ref (a 6), .ref (a 7), .ref (a 8), .ref (a 9), .ref (a 10), .ref (a 11), .ref (a 12), .ref (a 13), .ref (a 14), .ref (a 15), .ref (a 16), .ref (a 17), .int (nI n86), .ref (a 18), .ref (a 19), .ref (a 20), .ref (a 21), .int v88, .int v89, .int v90, .int v91, .int (nI n92), .int (nI n94), .ref (a 22), .ref (a 23), .ref (a 24), .ref (a 25), .ref (a 26), .ref (a 27), .ref (a 28), .ref (a 29), .ref (a 30), .int v96]) := keeps_at kq106 k70 (by first | decide | omega | (dsimp only; omega))
              refine x_iload_n C dX12_tried_101 rfl 0 rfl rfl ?_
              exact x_zret C hr hlk rfl dX12_tried_102 hW105
            · skip
              have nf108 : j19 = 3 := (nI_eq (by omega) (by omega)).mp c68
              refine x_aload_n C dX12_tried_77 rfl 0 rfl rfl ?_
              obtain ⟨_, k109, n110, n112, n114, v116, v117, v118, n119, n121, n123, n125, v127, v128, v129, v130, n131, n133, v135, bn111, bn113, bn115, bn120, bn122, bn124, bn126, bn132, bn134, zv136, rfl⟩ := hW60 0 _ rfl
              refine x_get C (ci := 11) (k := 35) 0 k109 rfl in_X12 (by decide) w_1153 rfl dX12_tried_78 rfl ?_
              refine x_goto C (tgt := 89) dX12_tried_81 (by decide) ?_
              refine x_istore_n C (lv' := [(3, .int v130), (0, .ref (a 0)), (1, .int (nI j8)), (2, .int (nI j19))]) dX12_tried_89 rfl (by decide) rfl rfl ?_
              refine x_aload_n C dX12_tried_90 rfl 1 rfl rfl ?_
              refine x_get C (ci := 11) (k := 1) 0 k109 rfl in_X12 (by decide) w_1119 rfl dX12_tried_91 rfl ?_
              refine x_aload_n C dX12_tried_94 rfl 1 rfl rfl ?_
              refine x_get C (ci := 11) (k := 0) 0 k109 rfl in_X12 (by decide) w_1118 rfl dX12_tried_95 rfl ?_
              refine x_sv C (As := [.ref (a 2), .ref (a 1)]) (rest := []) (m_copies21 E l a cd hG w59 hW60) mf_X12_copies w_1490 rfl rfl (Nat.le_of_ble_eq_true rfl) ⟨(Nat.le_of_ble_eq_true rfl), (Nat.le_of_ble_eq_true rfl)⟩ ⟨(Nat.le_of_ble_eq_true rfl), (Nat.le_of_ble_eq_true rfl)⟩ dX12_tried_98 rfl (fun w139 h137 => ?_)
              obtain ⟨hW140, kq141⟩ := h137
              have k142 : w139[0]? = some (ob (a 0) 11 [.ref (a 1), .ref (a 2), .ref (a 3), .ref (a 4), .int (nI n110), .int (nI n112), .int (nI n114), .int v116, .int v117, .int v118, .int (nI n119), .int (nI n121), .int (nI n123), .int (nI (cd.2.2.2.2.2)), .ref (a 5), .ref (a 6), .ref (a 7), .ref (a 8), .ref (a 9), .ref (a 10), .ref (a 11), .ref (a 12), .ref (a 13), .ref (a 14), .ref (a 15), .ref (a 16), .ref (a 17), .int (nI n125), .ref (a 18), .ref (a 19), .ref (a 20), .ref (a 21), .int v127, .int v128, .int v129, .int v130, .int (nI n131), .int (nI n133), .ref (a 22), .ref (a 23), .ref (a 24), .ref (a 25), .ref (a 26), .ref (a 27), .ref (a 28), .ref (a 29), .ref (a 30), .int v135]) := keeps_at kq141 k109 (by first | decide | omega | (dsimp only; omega))
              refine x_iload_n C dX12_tried_101 rfl 0 rfl rfl ?_
              exact x_zret C hr hlk rfl dX12_tried_102 hW140
          · skip
            have nf143 : j19 = 2 := (nI_eq (by omega) (by omega)).mp c66
            refine x_aload_n C dX12_tried_65 rfl 0 rfl rfl ?_
            obtain ⟨_, k144, n145, n147, n149, v151, v152, v153, n154, n156, n158, n160, v162, v163, v164, v165, n166, n168, v170, bn146, bn148, bn150, bn155, bn157, bn159, bn161, bn167, bn169, zv171, rfl⟩ := hW60 0 _ rfl
            refine x_get C (ci := 11) (k := 34) 0 k144 rfl in_X12 (by decide) w_1152 rfl dX12_tried_66 rfl ?_
            refine x_goto C (tgt := 89) dX12_tried_69 (by decide) ?_
            refine x_istore_n C (lv' := [(3, .int v164), (0, .ref (a 0)), (1, .int (nI j8)), (2, .int (nI j19))]) dX12_tried_89 rfl (by decide) rfl rfl ?_
            refine x_aload_n C dX12_tried_90 rfl 1 rfl rfl ?_
            refine x_get C (ci := 11) (k := 1) 0 k144 rfl in_X12 (by decide) w_1119 rfl dX12_tried_91 rfl ?_
            refine x_aload_n C dX12_tried_94 rfl 1 rfl rfl ?_
            refine x_get C (ci := 11) (k := 0) 0 k144 rfl in_X12 (by decide) w_1118 rfl dX12_tried_95 rfl ?_
            refine x_sv C (As := [.ref (a 2), .ref (a 1)]) (rest := []) (m_copies21 E l a cd hG w59 hW60) mf_X12_copies w_1490 rfl rfl (Nat.le_of_ble_eq_true rfl) ⟨(Nat.le_of_ble_eq_true rfl), (Nat.le_of_ble_eq_true rfl)⟩ ⟨(Nat.le_of_ble_eq_true rfl), (Nat.le_of_ble_eq_true rfl)⟩ dX12_tried_98 rfl (fun w174 h172 => ?_)
            obtain ⟨hW175, kq176⟩ := h172
            have k177 : w174[0]? = some (ob (a 0) 11 [.ref (a 1), .ref (a 2), .ref (a 3), .ref (a 4), .int (nI n145), .int (nI n147), .int (nI n149), .int v151, .int v152, .int v153, .int (nI n154), .int (nI n156), .int (nI n158), .int (nI (cd.2.2.2.2.2)), .ref (a 5), .ref (a 6), .ref (a 7), .ref (a 8), .ref (a 9), .ref (a 10), .ref (a 11), .ref (a 12), .ref (a 13), .ref (a 14), .ref (a 15), .ref (a 16), .ref (a 17), .int (nI n160), .ref (a 18), .ref (a 19), .ref (a 20), .ref (a 21), .int v162, .int v163, .int v164, .int v165, .int (nI n166), .int (nI n168), .ref (a 22), .ref (a 23), .ref (a 24), .ref (a 25), .ref (a 26), .ref (a 27), .ref (a 28), .ref (a 29), .ref (a 30), .int v170]) := keeps_at kq176 k144 (by first | decide | omega | (dsimp only; omega))
            refine x_iload_n C dX12_tried_101 rfl 0 rfl rfl ?_
            exact x_zret C hr hlk rfl dX12_tried_102 hW175
        · skip
          have nf178 : j19 = 1 := (nI_eq (by omega) (by omega)).mp c64
          refine x_aload_n C dX12_tried_53 rfl 0 rfl rfl ?_
          obtain ⟨_, k179, n180, n182, n184, v186, v187, v188, n189, n191, n193, n195, v197, v198, v199, v200, n201, n203, v205, bn181, bn183, bn185, bn190, bn192, bn194, bn196, bn202, bn204, zv206, rfl⟩ := hW60 0 _ rfl
          refine x_get C (ci := 11) (k := 33) 0 k179 rfl in_X12 (by decide) w_1151 rfl dX12_tried_54 rfl ?_
          refine x_goto C (tgt := 89) dX12_tried_57 (by decide) ?_
          refine x_istore_n C (lv' := [(3, .int v198), (0, .ref (a 0)), (1, .int (nI j8)), (2, .int (nI j19))]) dX12_tried_89 rfl (by decide) rfl rfl ?_
          refine x_aload_n C dX12_tried_90 rfl 1 rfl rfl ?_
          refine x_get C (ci := 11) (k := 1) 0 k179 rfl in_X12 (by decide) w_1119 rfl dX12_tried_91 rfl ?_
          refine x_aload_n C dX12_tried_94 rfl 1 rfl rfl ?_
          refine x_get C (ci := 11) (k := 0) 0 k179 rfl in_X12 (by decide) w_1118 rfl dX12_tried_95 rfl ?_
          refine x_sv C (As := [.ref (a 2), .ref (a 1)]) (rest := []) (m_copies21 E l a cd hG w59 hW60) mf_X12_copies w_1490 rfl rfl (Nat.le_of_ble_eq_true rfl) ⟨(Nat.le_of_ble_eq_true rfl), (Nat.le_of_ble_eq_true rfl)⟩ ⟨(Nat.le_of_ble_eq_true rfl), (Nat.le_of_ble_eq_true rfl)⟩ dX12_tried_98 rfl (fun w209 h207 => ?_)
          obtain ⟨hW210, kq211⟩ := h207
          have k212 : w209[0]? = some (ob (a 0) 11 [.ref (a 1), .ref (a 2), .ref (a 3), .ref (a 4), .int (nI n180), .int (nI n182), .int (nI n184), .int v186, .int v187, .int v188, .int (nI n189), .int (nI n191), .int (nI n193), .int (nI (cd.2.2.2.2.2)), .ref (a 5), .ref (a 6), .ref (a 7), .ref (a 8), .ref (a 9), .ref (a 10), .ref (a 11), .ref (a 12), .ref (a 13), .ref (a 14), .ref (a 15), .ref (a 16), .ref (a 17), .int (nI n195), .ref (a 18), .ref (a 19), .ref (a 20), .ref (a 21), .int v197, .int v198, .int v199, .int v200, .int (nI n201), .int (nI n203), .ref (a 22), .ref (a 23), .ref (a 24), .ref (a 25), .ref (a 26), .ref (a 27), .ref (a 28), .ref (a 29), .ref (a 30), .int v205]) := keeps_at kq211 k179 (by first | decide | omega | (dsimp only; omega))
          refine x_iload_n C dX12_tried_101 rfl 0 rfl rfl ?_
          exact x_zret C hr hlk rfl dX12_tried_102 hW210
      · skip
        have nf213 : j19 = 0 := (nI_eq (by omega) (by omega)).mp c62
        refine x_aload_n C dX12_tried_41 rfl 0 rfl rfl ?_
        obtain ⟨_, k214, n215, n217, n219, v221, v222, v223, n224, n226, n228, n230, v232, v233, v234, v235, n236, n238, v240, bn216, bn218, bn220, bn225, bn227, bn229, bn231, bn237, bn239, zv241, rfl⟩ := hW60 0 _ rfl
        refine x_get C (ci := 11) (k := 32) 0 k214 rfl in_X12 (by decide) w_1150 rfl dX12_tried_42 rfl ?_
        refine x_goto C (tgt := 89) dX12_tried_45 (by decide) ?_
        refine x_istore_n C (lv' := [(3, .int v232), (0, .ref (a 0)), (1, .int (nI j8)), (2, .int (nI j19))]) dX12_tried_89 rfl (by decide) rfl rfl ?_
        refine x_aload_n C dX12_tried_90 rfl 1 rfl rfl ?_
        refine x_get C (ci := 11) (k := 1) 0 k214 rfl in_X12 (by decide) w_1119 rfl dX12_tried_91 rfl ?_
        refine x_aload_n C dX12_tried_94 rfl 1 rfl rfl ?_
        refine x_get C (ci := 11) (k := 0) 0 k214 rfl in_X12 (by decide) w_1118 rfl dX12_tried_95 rfl ?_
        refine x_sv C (As := [.ref (a 2), .ref (a 1)]) (rest := []) (m_copies21 E l a cd hG w59 hW60) mf_X12_copies w_1490 rfl rfl (Nat.le_of_ble_eq_true rfl) ⟨(Nat.le_of_ble_eq_true rfl), (Nat.le_of_ble_eq_true rfl)⟩ ⟨(Nat.le_of_ble_eq_true rfl), (Nat.le_of_ble_eq_true rfl)⟩ dX12_tried_98 rfl (fun w244 h242 => ?_)
        obtain ⟨hW245, kq246⟩ := h242
        have k247 : w244[0]? = some (ob (a 0) 11 [.ref (a 1), .ref (a 2), .ref (a 3), .ref (a 4), .int (nI n215), .int (nI n217), .int (nI n219), .int v221, .int v222, .int v223, .int (nI n224), .int (nI n226), .int (nI n228), .int (nI (cd.2.2.2.2.2)), .ref (a 5), .ref (a 6), .ref (a 7), .ref (a 8), .ref (a 9), .ref (a 10), .ref (a 11), .ref (a 12), .ref (a 13), .ref (a 14), .ref (a 15), .ref (a 16), .ref (a 17), .int (nI n230), .ref (a 18), .ref (a 19), .ref (a 20), .ref (a 21), .int v232, .int v233, .int v234, .int v235, .int (nI n236), .int (nI n238), .ref (a 22), .ref (a 23), .ref (a 24), .ref (a 25), .ref (a 26), .ref (a 27), .ref (a 28), .ref (a 29), .ref (a 30), .int v240]) := keeps_at kq246 k214 (by first | decide | omega | (dsimp only; omega))
        refine x_iload_n C dX12_tried_101 rfl 0 rfl rfl ?_
        exact x_zret C hr hlk rfl dX12_tried_102 hW245
    · skip
      refine x_iconst C (v := (-1)) dX12_tried_19 (by decide) rfl ?_
      exact x_zret C hr hlk rfl dX12_tried_20 hW
theorem dX12_egg_0 : decode cX12_egg 0 = .ok (.aload_n 0, 1) := by decide +kernel
theorem dX12_egg_1 : decode cX12_egg 1 = .ok (.iload_n 1, 1) := by decide +kernel
theorem dX12_egg_2 : decode cX12_egg 2 = .ok (.invokevirtual 105, 3) := by decide +kernel
theorem dX12_egg_5 : decode cX12_egg 5 = .ok (.ifCond .ne 5, 3) := by decide +kernel
theorem dX12_egg_8 : decode cX12_egg 8 = .ok (.iconst (-1), 1) := by decide +kernel
theorem dX12_egg_9 : decode cX12_egg 9 = .ok (.ireturn, 1) := by decide +kernel
theorem dX12_egg_10 : decode cX12_egg 10 = .ok (.iload_n 2, 1) := by decide +kernel
theorem dX12_egg_11 : decode cX12_egg 11 = .ok (.tableswitch 124 0 6 #[41, 50, 60, 70, 81, 92, 103], 41) := by decide +kernel
theorem dX12_egg_52 : decode cX12_egg 52 = .ok (.aload_n 0, 1) := by decide +kernel
theorem dX12_egg_53 : decode cX12_egg 53 = .ok (.getfield 7, 3) := by decide +kernel
theorem dX12_egg_56 : decode cX12_egg 56 = .ok (.iconst 0, 1) := by decide +kernel
theorem dX12_egg_57 : decode cX12_egg 57 = .ok (.iload_n 1, 1) := by decide +kernel
theorem dX12_egg_58 : decode cX12_egg 58 = .ok (.iadd, 1) := by decide +kernel
theorem dX12_egg_59 : decode cX12_egg 59 = .ok (.iaload, 1) := by decide +kernel
theorem dX12_egg_60 : decode cX12_egg 60 = .ok (.ireturn, 1) := by decide +kernel
theorem dX12_egg_61 : decode cX12_egg 61 = .ok (.aload_n 0, 1) := by decide +kernel
theorem dX12_egg_62 : decode cX12_egg 62 = .ok (.getfield 7, 3) := by decide +kernel
theorem dX12_egg_65 : decode cX12_egg 65 = .ok (.bipush 48, 2) := by decide +kernel
theorem dX12_egg_67 : decode cX12_egg 67 = .ok (.iload_n 1, 1) := by decide +kernel
theorem dX12_egg_68 : decode cX12_egg 68 = .ok (.iadd, 1) := by decide +kernel
theorem dX12_egg_69 : decode cX12_egg 69 = .ok (.iaload, 1) := by decide +kernel
theorem dX12_egg_70 : decode cX12_egg 70 = .ok (.ireturn, 1) := by decide +kernel
theorem dX12_egg_71 : decode cX12_egg 71 = .ok (.aload_n 0, 1) := by decide +kernel
theorem dX12_egg_72 : decode cX12_egg 72 = .ok (.getfield 7, 3) := by decide +kernel
theorem dX12_egg_75 : decode cX12_egg 75 = .ok (.bipush 96, 2) := by decide +kernel
theorem dX12_egg_77 : decode cX12_egg 77 = .ok (.iload_n 1, 1) := by decide +kernel
theorem dX12_egg_78 : decode cX12_egg 78 = .ok (.iadd, 1) := by decide +kernel
theorem dX12_egg_79 : decode cX12_egg 79 = .ok (.iaload, 1) := by decide +kernel
theorem dX12_egg_80 : decode cX12_egg 80 = .ok (.ireturn, 1) := by decide +kernel
theorem dX12_egg_81 : decode cX12_egg 81 = .ok (.aload_n 0, 1) := by decide +kernel
theorem dX12_egg_82 : decode cX12_egg 82 = .ok (.getfield 7, 3) := by decide +kernel
theorem dX12_egg_85 : decode cX12_egg 85 = .ok (.sipush 144, 3) := by decide +kernel
theorem dX12_egg_88 : decode cX12_egg 88 = .ok (.iload_n 1, 1) := by decide +kernel
theorem dX12_egg_89 : decode cX12_egg 89 = .ok (.iadd, 1) := by decide +kernel
theorem dX12_egg_90 : decode cX12_egg 90 = .ok (.iaload, 1) := by decide +kernel
theorem dX12_egg_91 : decode cX12_egg 91 = .ok (.ireturn, 1) := by decide +kernel
theorem dX12_egg_92 : decode cX12_egg 92 = .ok (.aload_n 0, 1) := by decide +kernel
theorem dX12_egg_93 : decode cX12_egg 93 = .ok (.getfield 7, 3) := by decide +kernel
theorem dX12_egg_96 : decode cX12_egg 96 = .ok (.sipush 192, 3) := by decide +kernel
theorem dX12_egg_99 : decode cX12_egg 99 = .ok (.iload_n 1, 1) := by decide +kernel
theorem dX12_egg_100 : decode cX12_egg 100 = .ok (.iadd, 1) := by decide +kernel
theorem dX12_egg_101 : decode cX12_egg 101 = .ok (.iaload, 1) := by decide +kernel
theorem dX12_egg_102 : decode cX12_egg 102 = .ok (.ireturn, 1) := by decide +kernel
theorem dX12_egg_103 : decode cX12_egg 103 = .ok (.aload_n 0, 1) := by decide +kernel
theorem dX12_egg_104 : decode cX12_egg 104 = .ok (.getfield 7, 3) := by decide +kernel
theorem dX12_egg_107 : decode cX12_egg 107 = .ok (.sipush 240, 3) := by decide +kernel
theorem dX12_egg_110 : decode cX12_egg 110 = .ok (.iload_n 1, 1) := by decide +kernel
theorem dX12_egg_111 : decode cX12_egg 111 = .ok (.iadd, 1) := by decide +kernel
theorem dX12_egg_112 : decode cX12_egg 112 = .ok (.iaload, 1) := by decide +kernel
theorem dX12_egg_113 : decode cX12_egg 113 = .ok (.ireturn, 1) := by decide +kernel
theorem dX12_egg_114 : decode cX12_egg 114 = .ok (.aload_n 0, 1) := by decide +kernel
theorem dX12_egg_115 : decode cX12_egg 115 = .ok (.iload_n 1, 1) := by decide +kernel
theorem dX12_egg_116 : decode cX12_egg 116 = .ok (.invokevirtual 334, 3) := by decide +kernel
theorem dX12_egg_119 : decode cX12_egg 119 = .ok (.ldc 246, 2) := by decide +kernel
theorem dX12_egg_121 : decode cX12_egg 121 = .ok (.if_icmp .ne 8, 3) := by decide +kernel
theorem dX12_egg_124 : decode cX12_egg 124 = .ok (.bipush (-2), 2) := by decide +kernel
theorem dX12_egg_126 : decode cX12_egg 126 = .ok (.goto 8, 3) := by decide +kernel
theorem dX12_egg_129 : decode cX12_egg 129 = .ok (.aload_n 0, 1) := by decide +kernel
theorem dX12_egg_130 : decode cX12_egg 130 = .ok (.iload_n 1, 1) := by decide +kernel
theorem dX12_egg_131 : decode cX12_egg 131 = .ok (.invokevirtual 334, 3) := by decide +kernel
theorem dX12_egg_134 : decode cX12_egg 134 = .ok (.ireturn, 1) := by decide +kernel
theorem dX12_egg_135 : decode cX12_egg 135 = .ok (.iconst (-1), 1) := by decide +kernel
theorem dX12_egg_136 : decode cX12_egg 136 = .ok (.ireturn, 1) := by decide +kernel
set_option maxRecDepth 20000 in
set_option maxHeartbeats 4000000 in
theorem m_egg (E : xE) (l : Launch) (a : Nat → Nat) (cd : Cd) (hG : Good cd) (ws : va_W) (hW : WX (okM E a cd) ws) (p0 : Int32) (p1 : Int32) : xI E l yX12_egg cX12_egg 3 (some .int) 8 [.ref (a 0), .int p0, .int p1] ws (fun r w => WX (okM E a cd) w) := by
  refine xI_start (lv := [(0, .ref (a 0)), (1, .int p0), (2, .int p1)]) RX12 (by decide) rfl (Nat.le_of_ble_eq_true rfl) rfl (fun p e s m below meth c A C hr hlk => ?_)
  refine x_aload_n C dX12_egg_0 rfl 0 rfl rfl ?_
  refine x_iload_n C dX12_egg_1 rfl 1 rfl rfl ?_
  obtain ⟨_, k1, n2, n4, n6, v8, v9, v10, n11, n13, n15, n17, v19, v20, v21, v22, n23, n25, v27, bn3, bn5, bn7, bn12, bn14, bn16, bn18, bn24, bn26, zv28, rfl⟩ := hW 0 _ rfl
  refine x_vi C (As := [.int p0]) (rest := []) (m_isEgg E l a cd hG ws hW p0) mf_X12_isEgg w_1439 0 k1 rfl rfl rfl (Nat.le_of_ble_eq_true rfl) ⟨(Nat.le_of_ble_eq_true rfl), (Nat.le_of_ble_eq_true rfl)⟩ ⟨(Nat.le_of_ble_eq_true rfl), (Nat.le_of_ble_eq_true rfl)⟩ dX12_egg_2 rfl (fun r30 w31 h29 => ?_)
  obtain ⟨hW32, zb33, x34⟩ := h29
  refine x_ws hW32 ?_
  refine x_if_ne C (tgt := 10) dX12_egg_5 (by decide) rfl (fun c35 => ?_) (fun c35 => ?_)
  · skip
    obtain ⟨j36, hl37, hh38, ej39⟩ := w_nat (a := 0) (b := 47) (by decide) (by decide) (x34 c35)
    subst ej39
    refine x_iload_n C dX12_egg_10 rfl 2 rfl rfl ?_
    by_cases s40 : (p1).toInt < 0
    · refine x_tabOut C (tgt := 135) dX12_egg_11 (Or.inl s40) (by decide) ?_
      refine x_iconst C (v := (-1)) dX12_egg_135 (by decide) rfl ?_
      exact x_zret C hr hlk rfl dX12_egg_136 hW
    by_cases s41 : 6 < (p1).toInt
    · refine x_tabOut C (tgt := 135) dX12_egg_11 (Or.inr s41) (by decide) ?_
      refine x_iconst C (v := (-1)) dX12_egg_135 (by decide) rfl ?_
      exact x_zret C hr hlk rfl dX12_egg_136 hW
    by_cases s42 : p1 = 0
    · refine x_tabIn C (tgt := 52) dX12_egg_11 (by rw [s42]; decide) (by rw [s42]; decide) (by rw [s42]; rfl) (by decide) ?_
      refine x_aload_n C dX12_egg_52 rfl 0 rfl rfl ?_
      refine x_get C (ci := 11) (k := 0) 0 k1 rfl in_X12 (by decide) w_1118 rfl dX12_egg_53 rfl ?_
      refine x_iconst C (v := 0) dX12_egg_56 (by decide) rfl ?_
      refine x_iload_n C dX12_egg_57 rfl 1 rfl rfl ?_
      refine x_iadd C (v := (nI (0 + j36))) dX12_egg_58 (nI_add 0 j36) rfl ?_
      obtain ⟨_, k43, f44, pf45, rfl⟩ := hW 1 _ rfl
      refine x_iald C (v := (f44 (nI (0 + j36)).toNatClampNeg)) 1 k43 (vp_in_nI (by omega) (by decide)) rfl dX12_egg_59 rfl ?_
      refine x_any (fun v46 => ?_)
      exact x_zret C hr hlk rfl dX12_egg_60 hW
    have zs42 := sw_ne (by decide : (0 : Int32).toInt = 0) s42
    by_cases s47 : p1 = 1
    · refine x_tabIn C (tgt := 61) dX12_egg_11 (by rw [s47]; decide) (by rw [s47]; decide) (by rw [s47]; rfl) (by decide) ?_
      refine x_aload_n C dX12_egg_61 rfl 0 rfl rfl ?_
      refine x_get C (ci := 11) (k := 0) 0 k1 rfl in_X12 (by decide) w_1118 rfl dX12_egg_62 rfl ?_
      refine x_bipush C (v := 48) dX12_egg_65 (by decide) rfl ?_
      refine x_iload_n C dX12_egg_67 rfl 1 rfl rfl ?_
      refine x_iadd C (v := (nI (48 + j36))) dX12_egg_68 (nI_add 48 j36) rfl ?_
      obtain ⟨_, k48, f49, pf50, rfl⟩ := hW 1 _ rfl
      obtain ⟨n51, hn52, en53⟩ := NB_lo (j := j36) pf50 (by omega)
      refine x_ialk C (v := nI n51) (48 + j36) (nI_clamp (by omega)) (nI_pos (by omega)) (by omega) 1 k48 en53 dX12_egg_69 rfl ?_
      exact x_zret C hr hlk rfl dX12_egg_70 hW
    have zs47 := sw_ne (by decide : (1 : Int32).toInt = 1) s47
    by_cases s54 : p1 = 2
    · refine x_tabIn C (tgt := 71) dX12_egg_11 (by rw [s54]; decide) (by rw [s54]; decide) (by rw [s54]; rfl) (by decide) ?_
      refine x_aload_n C dX12_egg_71 rfl 0 rfl rfl ?_
      refine x_get C (ci := 11) (k := 0) 0 k1 rfl in_X12 (by decide) w_1118 rfl dX12_egg_72 rfl ?_
      refine x_bipush C (v := 96) dX12_egg_75 (by decide) rfl ?_
      refine x_iload_n C dX12_egg_77 rfl 1 rfl rfl ?_
      refine x_iadd C (v := (nI (96 + j36))) dX12_egg_78 (nI_add 96 j36) rfl ?_
      obtain ⟨_, k55, f56, pf57, rfl⟩ := hW 1 _ rfl
      obtain ⟨n58, hn59, en60⟩ := NB_hen (j := j36) pf57 (by omega)
      refine x_ialk C (v := nI n58) (96 + j36) (nI_clamp (by omega)) (nI_pos (by omega)) (by omega) 1 k55 en60 dX12_egg_79 rfl ?_
      exact x_zret C hr hlk rfl dX12_egg_80 hW
    have zs54 := sw_ne (by decide : (2 : Int32).toInt = 2) s54
    by_cases s61 : p1 = 3
    · refine x_tabIn C (tgt := 81) dX12_egg_11 (by rw [s61]; decide) (by rw [s61]; decide) (by rw [s61]; rfl) (by decide) ?_
      refine x_aload_n C dX12_egg_81 rfl 0 rfl rfl ?_
      refine x_get C (ci := 11) (k := 0) 0 k1 rfl in_X12 (by decide) w_1118 rfl dX12_egg_82 rfl ?_
      refine x_sipush C (v := 144) dX12_egg_85 (by decide) rfl ?_
      refine x_iload_n C dX12_egg_88 rfl 1 rfl rfl ?_
      refine x_iadd C (v := (nI (144 + j36))) dX12_egg_89 (nI_add 144 j36) rfl ?_
      obtain ⟨_, k62, f63, pf64, rfl⟩ := hW 1 _ rfl
      obtain ⟨n65, hn66, en67⟩ := NB_own (j := j36) pf64 (by omega)
      refine x_ialk C (v := nI n65) (144 + j36) (nI_clamp (by omega)) (nI_pos (by omega)) (by omega) 1 k62 en67 dX12_egg_90 rfl ?_
      exact x_zret C hr hlk rfl dX12_egg_91 hW
    have zs61 := sw_ne (by decide : (3 : Int32).toInt = 3) s61
    by_cases s68 : p1 = 4
    · refine x_tabIn C (tgt := 92) dX12_egg_11 (by rw [s68]; decide) (by rw [s68]; decide) (by rw [s68]; rfl) (by decide) ?_
      refine x_aload_n C dX12_egg_92 rfl 0 rfl rfl ?_
      refine x_get C (ci := 11) (k := 0) 0 k1 rfl in_X12 (by decide) w_1118 rfl dX12_egg_93 rfl ?_
      refine x_sipush C (v := 192) dX12_egg_96 (by decide) rfl ?_
      refine x_iload_n C dX12_egg_99 rfl 1 rfl rfl ?_
      refine x_iadd C (v := (nI (192 + j36))) dX12_egg_100 (nI_add 192 j36) rfl ?_
      obtain ⟨_, k69, f70, pf71, rfl⟩ := hW 1 _ rfl
      refine x_iald C (v := (f70 (nI (192 + j36)).toNatClampNeg)) 1 k69 (vp_in_nI (by omega) (by decide)) rfl dX12_egg_101 rfl ?_
      refine x_any (fun v72 => ?_)
      exact x_zret C hr hlk rfl dX12_egg_102 hW
    have zs68 := sw_ne (by decide : (4 : Int32).toInt = 4) s68
    by_cases s73 : p1 = 5
    · refine x_tabIn C (tgt := 103) dX12_egg_11 (by rw [s73]; decide) (by rw [s73]; decide) (by rw [s73]; rfl) (by decide) ?_
      refine x_aload_n C dX12_egg_103 rfl 0 rfl rfl ?_
      refine x_get C (ci := 11) (k := 0) 0 k1 rfl in_X12 (by decide) w_1118 rfl dX12_egg_104 rfl ?_
      refine x_sipush C (v := 240) dX12_egg_107 (by decide) rfl ?_
      refine x_iload_n C dX12_egg_110 rfl 1 rfl rfl ?_
      refine x_iadd C (v := (nI (240 + j36))) dX12_egg_111 (nI_add 240 j36) rfl ?_
      obtain ⟨_, k74, f75, pf76, rfl⟩ := hW 1 _ rfl
      refine x_iald C (v := (f75 (nI (240 + j36)).toNatClampNeg)) 1 k74 (vp_in_nI (by omega) (by decide)) rfl dX12_egg_112 rfl ?_
      refine x_any (fun v77 => ?_)
      exact x_zret C hr hlk rfl dX12_egg_113 hW
    have zs73 := sw_ne (by decide : (5 : Int32).toInt = 5) s73
    have s78 : p1 = 6 := sw_last (n := 6) (by decide) s40 s41 (by omega)
    refine x_tabIn C (tgt := 114) dX12_egg_11 (by rw [s78]; decide) (by rw [s78]; decide) (by rw [s78]; rfl) (by decide) ?_
    refine x_aload_n C dX12_egg_114 rfl 0 rfl rfl ?_
    refine x_iload_n C dX12_egg_115 rfl 1 rfl rfl ?_
    refine x_vi C (As := [.int (nI j36)]) (rest := []) (m_badOn E l a cd hG ws hW j36 (by omega)) mf_X12_badOn w_1534 0 k1 rfl rfl rfl (Nat.le_of_ble_eq_true rfl) ⟨(Nat.le_of_ble_eq_true rfl), (Nat.le_of_ble_eq_true rfl)⟩ ⟨(Nat.le_of_ble_eq_true rfl), (Nat.le_of_ble_eq_true rfl)⟩ dX12_egg_116 rfl (fun r80 w81 h79 => ?_)
    obtain ⟨hW82, kq83, x84⟩ := h79
    have k85 : w81[0]? = some (ob (a 0) 11 [.ref (a 1), .ref (a 2), .ref (a 3), .ref (a 4), .int (nI n2), .int (nI n4), .int (nI n6), .int v8, .int v9, .int v10, .int (nI n11), .int (nI n13), .int (nI n15), .int (nI (cd.2.2.2.2.2)), .ref (a 5), .ref (a 6), .ref (a 7), .ref (a 8), .ref (a 9), .ref (a 10), .ref (a 11), .ref (a 12), .ref (a 13), .ref (a 14), .ref (a 15), .ref (a 16), .ref (a 17), .int (nI n17), .ref (a 18), .ref (a 19), .ref (a 20), .ref (a 21), .int v19, .int v20, .int v21, .int v22, .int (nI n23), .int (nI n25), .ref (a 22), .ref (a 23), .ref (a 24), .ref (a 25), .ref (a 26), .ref (a 27), .ref (a 28), .ref (a 29), .ref (a 30), .int v27]) := keeps_at kq83 k1 (by first | decide | omega | (dsimp only; omega))
    refine x_ldc C w_1538 dX12_egg_119 rfl ?_
    refine x_icmp_ne C (tgt := 129) dX12_egg_121 (by decide) rfl (fun c86 => ?_) (fun c86 => ?_)
    · skip
      refine x_aload_n C dX12_egg_129 rfl 0 rfl rfl ?_
      refine x_iload_n C dX12_egg_130 rfl 1 rfl rfl ?_
      refine x_vi C (As := [.int (nI j36)]) (rest := []) (m_badOn E l a cd hG w81 hW82 j36 (by omega)) mf_X12_badOn w_1534 0 k85 rfl rfl rfl (Nat.le_of_ble_eq_true rfl) ⟨(Nat.le_of_ble_eq_true rfl), (Nat.le_of_ble_eq_true rfl)⟩ ⟨(Nat.le_of_ble_eq_true rfl), (Nat.le_of_ble_eq_true rfl)⟩ dX12_egg_131 rfl (fun r88 w89 h87 => ?_)
      obtain ⟨hW90, kq91, x92⟩ := h87
      have k93 : w89[0]? = some (ob (a 0) 11 [.ref (a 1), .ref (a 2), .ref (a 3), .ref (a 4), .int (nI n2), .int (nI n4), .int (nI n6), .int v8, .int v9, .int v10, .int (nI n11), .int (nI n13), .int (nI n15), .int (nI (cd.2.2.2.2.2)), .ref (a 5), .ref (a 6), .ref (a 7), .ref (a 8), .ref (a 9), .ref (a 10), .ref (a 11), .ref (a 12), .ref (a 13), .ref (a 14), .ref (a 15), .ref (a 16), .ref (a 17), .int (nI n17), .ref (a 18), .ref (a 19), .ref (a 20), .ref (a 21), .int v19, .int v20, .int v21, .int v22, .int (nI n23), .int (nI n25), .ref (a 22), .ref (a 23), .ref (a 24), .ref (a 25), .ref (a 26), .ref (a 27), .ref (a 28), .ref (a 29), .ref (a 30), .int v27]) := keeps_at kq91 k85 (by first | decide | omega | (dsimp only; omega))
      exact x_zret C hr hlk rfl dX12_egg_134 hW90
    · skip
      refine x_bipush C (v := (-2)) dX12_egg_124 (by decide) rfl ?_
      refine x_goto C (tgt := 134) dX12_egg_126 (by decide) ?_
      exact x_zret C hr hlk rfl dX12_egg_134 hW82
  · skip
    refine x_iconst C (v := (-1)) dX12_egg_8 (by decide) rfl ?_
    exact x_zret C hr hlk rfl dX12_egg_9 hW
theorem dX12_worksAll_0 : decode cX12_worksAll 0 = .ok (.iconst 0, 1) := by decide +kernel
theorem dX12_worksAll_1 : decode cX12_worksAll 1 = .ok (.istore_n 3, 1) := by decide +kernel
theorem dX12_worksAll_2 : decode cX12_worksAll 2 = .ok (.iload_n 3, 1) := by decide +kernel
theorem dX12_worksAll_3 : decode cX12_worksAll 3 = .ok (.aload_n 0, 1) := by decide +kernel
theorem dX12_worksAll_4 : decode cX12_worksAll 4 = .ok (.getfield 7, 3) := by decide +kernel
theorem dX12_worksAll_7 : decode cX12_worksAll 7 = .ok (.sipush 381, 3) := by decide +kernel
theorem dX12_worksAll_10 : decode cX12_worksAll 10 = .ok (.iaload, 1) := by decide +kernel
theorem dX12_worksAll_11 : decode cX12_worksAll 11 = .ok (.if_icmp .ge 45, 3) := by decide +kernel
theorem dX12_worksAll_14 : decode cX12_worksAll 14 = .ok (.aload_n 0, 1) := by decide +kernel
theorem dX12_worksAll_15 : decode cX12_worksAll 15 = .ok (.iload_n 3, 1) := by decide +kernel
theorem dX12_worksAll_16 : decode cX12_worksAll 16 = .ok (.invokevirtual 268, 3) := by decide +kernel
theorem dX12_worksAll_19 : decode cX12_worksAll 19 = .ok (.ifCond .eq 31, 3) := by decide +kernel
theorem dX12_worksAll_22 : decode cX12_worksAll 22 = .ok (.aload_n 0, 1) := by decide +kernel
theorem dX12_worksAll_23 : decode cX12_worksAll 23 = .ok (.getfield 7, 3) := by decide +kernel
theorem dX12_worksAll_26 : decode cX12_worksAll 26 = .ok (.sipush 144, 3) := by decide +kernel
theorem dX12_worksAll_29 : decode cX12_worksAll 29 = .ok (.iload_n 3, 1) := by decide +kernel
theorem dX12_worksAll_30 : decode cX12_worksAll 30 = .ok (.iadd, 1) := by decide +kernel
theorem dX12_worksAll_31 : decode cX12_worksAll 31 = .ok (.iaload, 1) := by decide +kernel
theorem dX12_worksAll_32 : decode cX12_worksAll 32 = .ok (.iload_n 2, 1) := by decide +kernel
theorem dX12_worksAll_33 : decode cX12_worksAll 33 = .ok (.if_icmp .ne 17, 3) := by decide +kernel
theorem dX12_worksAll_36 : decode cX12_worksAll 36 = .ok (.aload_n 0, 1) := by decide +kernel
theorem dX12_worksAll_37 : decode cX12_worksAll 37 = .ok (.iload_n 1, 1) := by decide +kernel
theorem dX12_worksAll_38 : decode cX12_worksAll 38 = .ok (.invokevirtual 265, 3) := by decide +kernel
theorem dX12_worksAll_41 : decode cX12_worksAll 41 = .ok (.ifCond .ne 9, 3) := by decide +kernel
theorem dX12_worksAll_44 : decode cX12_worksAll 44 = .ok (.aload_n 0, 1) := by decide +kernel
theorem dX12_worksAll_45 : decode cX12_worksAll 45 = .ok (.iload_n 3, 1) := by decide +kernel
theorem dX12_worksAll_46 : decode cX12_worksAll 46 = .ok (.iload_n 1, 1) := by decide +kernel
theorem dX12_worksAll_47 : decode cX12_worksAll 47 = .ok (.invokevirtual 287, 3) := by decide +kernel
theorem dX12_worksAll_50 : decode cX12_worksAll 50 = .ok (.iinc 3 1, 3) := by decide +kernel
theorem dX12_worksAll_53 : decode cX12_worksAll 53 = .ok (.goto (-51), 3) := by decide +kernel
theorem dX12_worksAll_56 : decode cX12_worksAll 56 = .ok (.return_, 1) := by decide +kernel
set_option maxRecDepth 20000 in
set_option maxHeartbeats 4000000 in
theorem m_worksAll (E : xE) (l : Launch) (a : Nat → Nat) (cd : Cd) (hG : Good cd) (ws : va_W) (hW : WX (okM E a cd) ws) (w0 : Nat) (p1 : Int32) (hw0 : w0 ≤ 7) : xV E l yX12_worksAll cX12_worksAll 4 5 0 0 [.ref (a 0), .int (nI w0), .int p1] ws (fun w => WX (okM E a cd) w ∧ keeps ws w (fun q => q = 1 ∨ q = 16 ∨ q = 17)) := by
  refine xV_start (lv := [(0, .ref (a 0)), (1, .int (nI w0)), (2, .int p1)]) RX12 (by decide) rfl (Nat.le_of_ble_eq_true rfl) rfl (fun p e s m below meth c A C hr hlk hin => ?_)
  have kp0 : keeps ws ws (fun q => q = 1 ∨ q = 16 ∨ q = 17) := keeps_rf
  refine x_iconst C (v := 0) dX12_worksAll_0 (by decide) rfl ?_
  refine x_istore_n C (lv' := [(3, .int 0), (0, .ref (a 0)), (1, .int (nI w0)), (2, .int p1)]) dX12_worksAll_1 rfl (by decide) rfl rfl ?_
  have loop2 : ∀ (fu2 : Nat) (i : Nat) (wl2 : va_W), WX (okM E a cd) wl2 → 48 - i < fu2 → i ≤ 48 → keeps ws wl2 (fun q => q = 1 ∨ q = 16 ∨ q = 17) → X E p l e (xRm 5 0 0) s m ([.ref (a 0), .int (nI w0), .int p1] : List Value).toArray below meth c A 4 0 0 (MQ below (va_Qv (fun w => WX (okM E a cd) w ∧ keeps ws w (fun q => q = 1 ∨ q = 16 ∨ q = 17)) (xB E A) A) ([.ref (a 0), .int (nI w0), .int p1] : List Value).toArray s 0 0 A) wl2 2 [(0, .ref (a 0)), (1, .int (nI w0)), (2, .int p1), (3, .int (nI i))] [] := by
    intro fu2
    induction fu2 with
    | zero => intro i wl2 _ q; omega
    | succ fu2 ih2 =>
      intro i wl2 hWl2 me2 iv2_0 kq2
      refine x_iload_n C dX12_worksAll_2 rfl 3 rfl rfl ?_
      refine x_aload_n C dX12_worksAll_3 rfl 0 rfl rfl ?_
      obtain ⟨_, k1, n2, n4, n6, v8, v9, v10, n11, n13, n15, n17, v19, v20, v21, v22, n23, n25, v27, bn3, bn5, bn7, bn12, bn14, bn16, bn18, bn24, bn26, zv28, rfl⟩ := hWl2 0 _ rfl
      refine x_get C (ci := 11) (k := 0) 0 k1 rfl in_X12 (by decide) w_1118 rfl dX12_worksAll_4 rfl ?_
      refine x_sipush C (v := 381) dX12_worksAll_7 (by decide) rfl ?_
      obtain ⟨_, k29, f30, pf31, rfl⟩ := hWl2 1 _ rfl
      obtain ⟨n32, hn33, en34⟩ := NB_many pf31
      refine x_ialk C (v := nI n32) 381 (by decide) (by decide) (by decide) 1 k29 en34 dX12_worksAll_10 rfl ?_
      refine x_icmp_ge C (tgt := 56) dX12_worksAll_11 (by decide) rfl (fun c35 => ?_) (fun c35 => ?_)
      · skip
        have nf36 := nI_le' (a := n32) (b := i) c35 (by omega) (by omega)
        exact x_vret C hr hlk dX12_worksAll_56 ⟨hWl2, kq2⟩
      · skip
        have nf37 := nI_nle' (a := n32) (b := i) c35 (by omega) (by omega)
        refine x_aload_n C dX12_worksAll_14 rfl 0 rfl rfl ?_
        refine x_iload_n C dX12_worksAll_15 rfl 3 rfl rfl ?_
        refine x_vi C (As := [.int (nI i)]) (rest := []) (m_isWhole E l a cd hG wl2 hWl2 ((nI i))) mf_X12_isWhole w_1435 0 k1 rfl rfl rfl (Nat.le_of_ble_eq_true rfl) ⟨(Nat.le_of_ble_eq_true rfl), (Nat.le_of_ble_eq_true rfl)⟩ ⟨(Nat.le_of_ble_eq_true rfl), (Nat.le_of_ble_eq_true rfl)⟩ dX12_worksAll_16 rfl (fun r39 w40 h38 => ?_)
        obtain ⟨hW41, zb42, x43⟩ := h38
        refine x_ws hW41 ?_
        refine x_if_eq C (tgt := 50) dX12_worksAll_19 (by decide) rfl (fun c44 => ?_) (fun c44 => ?_)
        · skip
          refine x_iinc C (v := (nI (i + 1))) (lv' := [(3, .int (nI (i + 1))), (0, .ref (a 0)), (1, .int (nI w0)), (2, .int p1)]) dX12_worksAll_50 3 rfl (nI_add i 1) (by decide) rfl rfl ?_
          refine x_goto C (tgt := 2) dX12_worksAll_53 (by decide) ?_
          refine x_lv (lv1 := [(0, .ref (a 0)), (1, .int (nI w0)), (2, .int p1), (3, .int (nI (i + 1)))]) [1, 2, 3, 0] rfl ?_
          exact ih2 (i + 1) wl2 hWl2 (by omega) (by omega) kq2
        · skip
          have wi45 := wth_le (a := 0) (b := 47) (j := i) (x43 c44) (by omega) (by decide) (by decide)
          refine x_aload_n C dX12_worksAll_22 rfl 0 rfl rfl ?_
          refine x_get C (ci := 11) (k := 0) 0 k1 rfl in_X12 (by decide) w_1118 rfl dX12_worksAll_23 rfl ?_
          refine x_sipush C (v := 144) dX12_worksAll_26 (by decide) rfl ?_
          refine x_iload_n C dX12_worksAll_29 rfl 3 rfl rfl ?_
          refine x_iadd C (v := (nI (144 + i))) dX12_worksAll_30 (nI_add 144 i) rfl ?_
          obtain ⟨n46, hn47, en48⟩ := NB_own (j := i) pf31 (by omega)
          refine x_ialk C (v := nI n46) (144 + i) (nI_clamp (by omega)) (nI_pos (by omega)) (by omega) 1 k29 en48 dX12_worksAll_31 rfl ?_
          refine x_iload_n C dX12_worksAll_32 rfl 2 rfl rfl ?_
          refine x_icmp_ne C (tgt := 50) dX12_worksAll_33 (by decide) rfl (fun c49 => ?_) (fun c49 => ?_)
          · skip
            refine x_iinc C (v := (nI (i + 1))) (lv' := [(3, .int (nI (i + 1))), (0, .ref (a 0)), (1, .int (nI w0)), (2, .int p1)]) dX12_worksAll_50 3 rfl (nI_add i 1) (by decide) rfl rfl ?_
            refine x_goto C (tgt := 2) dX12_worksAll_53 (by decide) ?_
            refine x_lv (lv1 := [(0, .ref (a 0)), (1, .int (nI w0)), (2, .int p1), (3, .int (nI (i + 1)))]) [1, 2, 3, 0] rfl ?_
            exact ih2 (i + 1) wl2 hWl2 (by omega) (by omega) kq2
          · skip
            refine x_aload_n C dX12_worksAll_36 rfl 0 rfl rfl ?_
            refine x_iload_n C dX12_worksAll_37 rfl 1 rfl rfl ?_
            refine x_vi C (As := [.int (nI w0)]) (rest := []) (m_isDone E l a cd hG wl2 hWl2 w0 (by omega)) mf_X12_isDone w_1431 0 k1 rfl rfl rfl (Nat.le_of_ble_eq_true rfl) ⟨(Nat.le_of_ble_eq_true rfl), (Nat.le_of_ble_eq_true rfl)⟩ ⟨(Nat.le_of_ble_eq_true rfl), (Nat.le_of_ble_eq_true rfl)⟩ dX12_worksAll_38 rfl (fun r51 w52 h50 => ?_)
            obtain ⟨hW53, zb54⟩ := h50
            refine x_ws hW53 ?_
            refine x_if_ne C (tgt := 50) dX12_worksAll_41 (by decide) rfl (fun c55 => ?_) (fun c55 => ?_)
            · skip
              refine x_iinc C (v := (nI (i + 1))) (lv' := [(3, .int (nI (i + 1))), (0, .ref (a 0)), (1, .int (nI w0)), (2, .int p1)]) dX12_worksAll_50 3 rfl (nI_add i 1) (by decide) rfl rfl ?_
              refine x_goto C (tgt := 2) dX12_worksAll_53 (by decide) ?_
              refine x_lv (lv1 := [(0, .ref (a 0)), (1, .int (nI w0)), (2, .int p1), (3, .int (nI (i + 1)))]) [1, 2, 3, 0] rfl ?_
              exact ih2 (i + 1) wl2 hWl2 (by omega) (by omega) kq2
            · skip
              refine x_aload_n C dX12_worksAll_44 rfl 0 rfl rfl ?_
              refine x_iload_n C dX12_worksAll_45 rfl 3 rfl rfl ?_
              refine x_iload_n C dX12_worksAll_46 rfl 1 rfl rfl ?_
              refine x_vv C (As := [.int (nI i), .int (nI w0)]) (rest := []) (m_worksBy E l a cd hG wl2 hWl2 i w0 (by omega) (by omega)) mf_X12_worksBy w_1447 0 k1 rfl rfl rfl (Nat.le_of_ble_eq_true rfl) ⟨(Nat.le_of_ble_eq_true rfl), (Nat.le_of_ble_eq_true rfl)⟩ ⟨(Nat.le_of_ble_eq_true rfl), (Nat.le_of_ble_eq_true rfl)⟩ dX12_worksAll_47 rfl (fun w58 h56 => ?_)
              obtain ⟨hW59, kq60⟩ := h56
              have k61 : w58[0]? = some (ob (a 0) 11 [.ref (a 1), .ref (a 2), .ref (a 3), .ref (a 4), .int (nI n2), .int (nI n4), .int (nI n6), .int v8, .int v9, .int v10, .int (nI n11), .int (nI n13), .int (nI n15), .int (nI (cd.2.2.2.2.2)), .ref (a 5), .ref (a 6), .ref (a 7), .ref (a 8), .ref (a 9), .ref (a 10), .ref (a 11), .ref (a 12), .ref (a 13), .ref (a 14), .ref (a 15), .ref (a 16), .ref (a 17), .int (nI n17), .ref (a 18), .ref (a 19), .ref (a 20), .ref (a 21), .int v19, .int v20, .int v21, .int v22, .int (nI n23), .int (nI n25), .ref (a 22), .ref (a 23), .ref (a 24), .ref (a 25), .ref (a 26), .ref (a 27), .ref (a 28), .ref (a 29), .ref (a 30), .int v27]) := keeps_at kq60 k1 (by first | decide | omega | (dsimp only; omega))
              have kp62 := keeps_tr kq2 kq60 (fun q hq => by first | omega | (dsimp only at *; omega))
              refine x_iinc C (v := (nI (i + 1))) (lv' := [(3, .int (nI (i + 1))), (0, .ref (a 0)), (1, .int (nI w0)), (2, .int p1)]) dX12_worksAll_50 3 rfl (nI_add i 1) (by decide) rfl rfl ?_
              refine x_goto C (tgt := 2) dX12_worksAll_53 (by decide) ?_
              refine x_lv (lv1 := [(0, .ref (a 0)), (1, .int (nI w0)), (2, .int p1), (3, .int (nI (i + 1)))]) [1, 2, 3, 0] rfl ?_
              exact ih2 (i + 1) w58 hW59 (by omega) (by omega) kp62
  refine x_lv (lv1 := [(0, .ref (a 0)), (1, .int (nI w0)), (2, .int p1), (3, .int 0)]) [1, 2, 3, 0] rfl ?_
  exact loop2 _ 0 ws hW (Nat.lt_succ_self _) (by omega) kp0
theorem dX12_daysFor_0 : decode cX12_daysFor 0 = .ok (.aload_n 0, 1) := by decide +kernel
theorem dX12_daysFor_1 : decode cX12_daysFor 1 = .ok (.getfield 7, 3) := by decide +kernel
theorem dX12_daysFor_4 : decode cX12_daysFor 4 = .ok (.aload_n 0, 1) := by decide +kernel
theorem dX12_daysFor_5 : decode cX12_daysFor 5 = .ok (.getfield 13, 3) := by decide +kernel
theorem dX12_daysFor_8 : decode cX12_daysFor 8 = .ok (.invokestatic 299, 3) := by decide +kernel
theorem dX12_daysFor_11 : decode cX12_daysFor 11 = .ok (.iconst 0, 1) := by decide +kernel
theorem dX12_daysFor_12 : decode cX12_daysFor 12 = .ok (.istore_n 3, 1) := by decide +kernel
theorem dX12_daysFor_13 : decode cX12_daysFor 13 = .ok (.aload_n 0, 1) := by decide +kernel
theorem dX12_daysFor_14 : decode cX12_daysFor 14 = .ok (.iload_n 1, 1) := by decide +kernel
theorem dX12_daysFor_15 : decode cX12_daysFor 15 = .ok (.iload_n 2, 1) := by decide +kernel
theorem dX12_daysFor_16 : decode cX12_daysFor 16 = .ok (.invokevirtual 393, 3) := by decide +kernel
theorem dX12_daysFor_19 : decode cX12_daysFor 19 = .ok (.aload_n 0, 1) := by decide +kernel
theorem dX12_daysFor_20 : decode cX12_daysFor 20 = .ok (.iload_n 1, 1) := by decide +kernel
theorem dX12_daysFor_21 : decode cX12_daysFor 21 = .ok (.invokevirtual 265, 3) := by decide +kernel
theorem dX12_daysFor_24 : decode cX12_daysFor 24 = .ok (.ifCond .ne 40, 3) := by decide +kernel
theorem dX12_daysFor_27 : decode cX12_daysFor 27 = .ok (.iload_n 3, 1) := by decide +kernel
theorem dX12_daysFor_28 : decode cX12_daysFor 28 = .ok (.bipush 60, 2) := by decide +kernel
theorem dX12_daysFor_30 : decode cX12_daysFor 30 = .ok (.if_icmp .ge 34, 3) := by decide +kernel
theorem dX12_daysFor_33 : decode cX12_daysFor 33 = .ok (.aload_n 0, 1) := by decide +kernel
theorem dX12_daysFor_34 : decode cX12_daysFor 34 = .ok (.getfield 7, 3) := by decide +kernel
theorem dX12_daysFor_37 : decode cX12_daysFor 37 = .ok (.sipush 379, 3) := by decide +kernel
theorem dX12_daysFor_40 : decode cX12_daysFor 40 = .ok (.iaload, 1) := by decide +kernel
theorem dX12_daysFor_41 : decode cX12_daysFor 41 = .ok (.sipush 9999, 3) := by decide +kernel
theorem dX12_daysFor_44 : decode cX12_daysFor 44 = .ok (.if_icmp .ge 20, 3) := by decide +kernel
theorem dX12_daysFor_47 : decode cX12_daysFor 47 = .ok (.aload_n 0, 1) := by decide +kernel
theorem dX12_daysFor_48 : decode cX12_daysFor 48 = .ok (.invokevirtual 325, 3) := by decide +kernel
theorem dX12_daysFor_51 : decode cX12_daysFor 51 = .ok (.iload_n 3, 1) := by decide +kernel
theorem dX12_daysFor_52 : decode cX12_daysFor 52 = .ok (.iconst 1, 1) := by decide +kernel
theorem dX12_daysFor_53 : decode cX12_daysFor 53 = .ok (.iadd, 1) := by decide +kernel
theorem dX12_daysFor_54 : decode cX12_daysFor 54 = .ok (.istore_n 3, 1) := by decide +kernel
theorem dX12_daysFor_55 : decode cX12_daysFor 55 = .ok (.aload_n 0, 1) := by decide +kernel
theorem dX12_daysFor_56 : decode cX12_daysFor 56 = .ok (.iload_n 1, 1) := by decide +kernel
theorem dX12_daysFor_57 : decode cX12_daysFor 57 = .ok (.iload_n 2, 1) := by decide +kernel
theorem dX12_daysFor_58 : decode cX12_daysFor 58 = .ok (.invokevirtual 393, 3) := by decide +kernel
theorem dX12_daysFor_61 : decode cX12_daysFor 61 = .ok (.goto (-42), 3) := by decide +kernel
theorem dX12_daysFor_64 : decode cX12_daysFor 64 = .ok (.aload_n 0, 1) := by decide +kernel
theorem dX12_daysFor_65 : decode cX12_daysFor 65 = .ok (.iload_n 1, 1) := by decide +kernel
theorem dX12_daysFor_66 : decode cX12_daysFor 66 = .ok (.invokevirtual 265, 3) := by decide +kernel
theorem dX12_daysFor_69 : decode cX12_daysFor 69 = .ok (.istore 4, 2) := by decide +kernel
theorem dX12_daysFor_71 : decode cX12_daysFor 71 = .ok (.aload_n 0, 1) := by decide +kernel
theorem dX12_daysFor_72 : decode cX12_daysFor 72 = .ok (.getfield 13, 3) := by decide +kernel
theorem dX12_daysFor_75 : decode cX12_daysFor 75 = .ok (.aload_n 0, 1) := by decide +kernel
theorem dX12_daysFor_76 : decode cX12_daysFor 76 = .ok (.getfield 7, 3) := by decide +kernel
theorem dX12_daysFor_79 : decode cX12_daysFor 79 = .ok (.invokestatic 299, 3) := by decide +kernel
theorem dX12_daysFor_82 : decode cX12_daysFor 82 = .ok (.iload 4, 2) := by decide +kernel
theorem dX12_daysFor_84 : decode cX12_daysFor 84 = .ok (.ifCond .eq 7, 3) := by decide +kernel
theorem dX12_daysFor_87 : decode cX12_daysFor 87 = .ok (.iload_n 3, 1) := by decide +kernel
theorem dX12_daysFor_88 : decode cX12_daysFor 88 = .ok (.goto 5, 3) := by decide +kernel
theorem dX12_daysFor_91 : decode cX12_daysFor 91 = .ok (.ldc 246, 2) := by decide +kernel
theorem dX12_daysFor_93 : decode cX12_daysFor 93 = .ok (.ireturn, 1) := by decide +kernel
set_option maxRecDepth 20000 in
set_option maxHeartbeats 4000000 in
theorem m_daysFor (E : xE) (l : Launch) (a : Nat → Nat) (cd : Cd) (hG : Good cd) (ws : va_W) (hW : WX (okM E a cd) ws) (w0 : Nat) (p1 : Int32) (hw0 : w0 ≤ 7) : xI E l yX12_daysFor cX12_daysFor 5 (some .int) 6 [.ref (a 0), .int (nI w0), .int p1] ws (fun r w => WX (okM E a cd) w) := by
  refine xI_start (lv := [(0, .ref (a 0)), (1, .int (nI w0)), (2, .int p1)]) RX12 (by decide) rfl (Nat.le_of_ble_eq_true rfl) rfl (fun p e s m below meth c A C hr hlk => ?_)
  refine x_aload_n C dX12_daysFor_0 rfl 0 rfl rfl ?_
  obtain ⟨_, k1, n2, n4, n6, v8, v9, v10, n11, n13, n15, n17, v19, v20, v21, v22, n23, n25, v27, bn3, bn5, bn7, bn12, bn14, bn16, bn18, bn24, bn26, zv28, rfl⟩ := hW 0 _ rfl
  refine x_get C (ci := 11) (k := 0) 0 k1 rfl in_X12 (by decide) w_1118 rfl dX12_daysFor_1 rfl ?_
  refine x_aload_n C dX12_daysFor_4 rfl 0 rfl rfl ?_
  refine x_get C (ci := 11) (k := 1) 0 k1 rfl in_X12 (by decide) w_1119 rfl dX12_daysFor_5 rfl ?_
  refine x_sv C (As := [.ref (a 1), .ref (a 2)]) (rest := []) (m_copies12 E l a cd hG ws hW) mf_X12_copies w_1490 rfl rfl (Nat.le_of_ble_eq_true rfl) ⟨(Nat.le_of_ble_eq_true rfl), (Nat.le_of_ble_eq_true rfl)⟩ ⟨(Nat.le_of_ble_eq_true rfl), (Nat.le_of_ble_eq_true rfl)⟩ dX12_daysFor_8 rfl (fun w31 h29 => ?_)
  obtain ⟨hW32, kq33⟩ := h29
  have k34 : w31[0]? = some (ob (a 0) 11 [.ref (a 1), .ref (a 2), .ref (a 3), .ref (a 4), .int (nI n2), .int (nI n4), .int (nI n6), .int v8, .int v9, .int v10, .int (nI n11), .int (nI n13), .int (nI n15), .int (nI (cd.2.2.2.2.2)), .ref (a 5), .ref (a 6), .ref (a 7), .ref (a 8), .ref (a 9), .ref (a 10), .ref (a 11), .ref (a 12), .ref (a 13), .ref (a 14), .ref (a 15), .ref (a 16), .ref (a 17), .int (nI n17), .ref (a 18), .ref (a 19), .ref (a 20), .ref (a 21), .int v19, .int v20, .int v21, .int v22, .int (nI n23), .int (nI n25), .ref (a 22), .ref (a 23), .ref (a 24), .ref (a 25), .ref (a 26), .ref (a 27), .ref (a 28), .ref (a 29), .ref (a 30), .int v27]) := keeps_at kq33 k1 (by first | decide | omega | (dsimp only; omega))
  refine x_iconst C (v := 0) dX12_daysFor_11 (by decide) rfl ?_
  refine x_istore_n C (lv' := [(3, .int 0), (0, .ref (a 0)), (1, .int (nI w0)), (2, .int p1)]) dX12_daysFor_12 rfl (by decide) rfl rfl ?_
  refine x_aload_n C dX12_daysFor_13 rfl 1 rfl rfl ?_
  refine x_iload_n C dX12_daysFor_14 rfl 2 rfl rfl ?_
  refine x_iload_n C dX12_daysFor_15 rfl 3 rfl rfl ?_
  refine x_vv C (As := [.int (nI w0), .int p1]) (rest := []) (m_worksAll E l a cd hG w31 hW32 w0 p1 (by omega)) mf_X12_worksAll w_1654 0 k34 rfl rfl rfl (Nat.le_of_ble_eq_true rfl) ⟨(Nat.le_of_ble_eq_true rfl), (Nat.le_of_ble_eq_true rfl)⟩ ⟨(Nat.le_of_ble_eq_true rfl), (Nat.le_of_ble_eq_true rfl)⟩ dX12_daysFor_16 rfl (fun w37 h35 => ?_)
  obtain ⟨hW38, kq39⟩ := h35
  have k40 : w37[0]? = some (ob (a 0) 11 [.ref (a 1), .ref (a 2), .ref (a 3), .ref (a 4), .int (nI n2), .int (nI n4), .int (nI n6), .int v8, .int v9, .int v10, .int (nI n11), .int (nI n13), .int (nI n15), .int (nI (cd.2.2.2.2.2)), .ref (a 5), .ref (a 6), .ref (a 7), .ref (a 8), .ref (a 9), .ref (a 10), .ref (a 11), .ref (a 12), .ref (a 13), .ref (a 14), .ref (a 15), .ref (a 16), .ref (a 17), .int (nI n17), .ref (a 18), .ref (a 19), .ref (a 20), .ref (a 21), .int v19, .int v20, .int v21, .int v22, .int (nI n23), .int (nI n25), .ref (a 22), .ref (a 23), .ref (a 24), .ref (a 25), .ref (a 26), .ref (a 27), .ref (a 28), .ref (a 29), .ref (a 30), .int v27]) := keeps_at kq39 k34 (by first | decide | omega | (dsimp only; omega))
  have loop19 : ∀ (fu19 : Nat) (n : Nat) (wl19 : va_W), WX (okM E a cd) wl19 → 60 - n < fu19 → n ≤ 60 → X E p l e (xRm 6 0 0) s m ([.ref (a 0), .int (nI w0), .int p1] : List Value).toArray below meth c A 5 0 0 (MQ below (va_Qi (fun r w => WX (okM E a cd) w) (xB E A) A) ([.ref (a 0), .int (nI w0), .int p1] : List Value).toArray s 0 0 A) wl19 19 [(0, .ref (a 0)), (1, .int (nI w0)), (2, .int p1), (3, .int (nI n))] [] := by
    intro fu19
    induction fu19 with
    | zero => intro n wl19 _ q; omega
    | succ fu19 ih19 =>
      intro n wl19 hWl19 me19 iv19_0
      refine x_aload_n C dX12_daysFor_19 rfl 0 rfl rfl ?_
      refine x_iload_n C dX12_daysFor_20 rfl 1 rfl rfl ?_
      obtain ⟨_, k41, n42, n44, n46, v48, v49, v50, n51, n53, n55, n57, v59, v60, v61, v62, n63, n65, v67, bn43, bn45, bn47, bn52, bn54, bn56, bn58, bn64, bn66, zv68, rfl⟩ := hWl19 0 _ rfl
      refine x_vi C (As := [.int (nI w0)]) (rest := []) (m_isDone E l a cd hG wl19 hWl19 w0 (by omega)) mf_X12_isDone w_1431 0 k41 rfl rfl rfl (Nat.le_of_ble_eq_true rfl) ⟨(Nat.le_of_ble_eq_true rfl), (Nat.le_of_ble_eq_true rfl)⟩ ⟨(Nat.le_of_ble_eq_true rfl), (Nat.le_of_ble_eq_true rfl)⟩ dX12_daysFor_21 rfl (fun r70 w71 h69 => ?_)
      obtain ⟨hW72, zb73⟩ := h69
      refine x_ws hW72 ?_
      refine x_if_ne C (tgt := 64) dX12_daysFor_24 (by decide) rfl (fun c74 => ?_) (fun c74 => ?_)
      · skip
        refine x_aload_n C dX12_daysFor_64 rfl 0 rfl rfl ?_
        refine x_iload_n C dX12_daysFor_65 rfl 1 rfl rfl ?_
        refine x_vi C (As := [.int (nI w0)]) (rest := []) (m_isDone E l a cd hG wl19 hWl19 w0 (by omega)) mf_X12_isDone w_1431 0 k41 rfl rfl rfl (Nat.le_of_ble_eq_true rfl) ⟨(Nat.le_of_ble_eq_true rfl), (Nat.le_of_ble_eq_true rfl)⟩ ⟨(Nat.le_of_ble_eq_true rfl), (Nat.le_of_ble_eq_true rfl)⟩ dX12_daysFor_66 rfl (fun r76 w77 h75 => ?_)
        obtain ⟨hW78, zb79⟩ := h75
        refine x_ws hW78 ?_
        refine x_istore C (lv' := [(4, .int r76), (0, .ref (a 0)), (1, .int (nI w0)), (2, .int p1), (3, .int (nI n))]) dX12_daysFor_69 (by decide) rfl rfl ?_
        refine x_aload_n C dX12_daysFor_71 rfl 1 rfl rfl ?_
        refine x_get C (ci := 11) (k := 1) 0 k41 rfl in_X12 (by decide) w_1119 rfl dX12_daysFor_72 rfl ?_
        refine x_aload_n C dX12_daysFor_75 rfl 1 rfl rfl ?_
        refine x_get C (ci := 11) (k := 0) 0 k41 rfl in_X12 (by decide) w_1118 rfl dX12_daysFor_76 rfl ?_
        refine x_sv C (As := [.ref (a 2), .ref (a 1)]) (rest := []) (m_copies21 E l a cd hG wl19 hWl19) mf_X12_copies w_1490 rfl rfl (Nat.le_of_ble_eq_true rfl) ⟨(Nat.le_of_ble_eq_true rfl), (Nat.le_of_ble_eq_true rfl)⟩ ⟨(Nat.le_of_ble_eq_true rfl), (Nat.le_of_ble_eq_true rfl)⟩ dX12_daysFor_79 rfl (fun w82 h80 => ?_)
        obtain ⟨hW83, kq84⟩ := h80
        have k85 : w82[0]? = some (ob (a 0) 11 [.ref (a 1), .ref (a 2), .ref (a 3), .ref (a 4), .int (nI n42), .int (nI n44), .int (nI n46), .int v48, .int v49, .int v50, .int (nI n51), .int (nI n53), .int (nI n55), .int (nI (cd.2.2.2.2.2)), .ref (a 5), .ref (a 6), .ref (a 7), .ref (a 8), .ref (a 9), .ref (a 10), .ref (a 11), .ref (a 12), .ref (a 13), .ref (a 14), .ref (a 15), .ref (a 16), .ref (a 17), .int (nI n57), .ref (a 18), .ref (a 19), .ref (a 20), .ref (a 21), .int v59, .int v60, .int v61, .int v62, .int (nI n63), .int (nI n65), .ref (a 22), .ref (a 23), .ref (a 24), .ref (a 25), .ref (a 26), .ref (a 27), .ref (a 28), .ref (a 29), .ref (a 30), .int v67]) := keeps_at kq84 k41 (by first | decide | omega | (dsimp only; omega))
        refine x_iload C dX12_daysFor_82 0 rfl rfl ?_
        refine x_if_eq C (tgt := 91) dX12_daysFor_84 (by decide) rfl (fun c86 => ?_) (fun c86 => ?_)
        · skip
          refine x_ldc C w_1538 dX12_daysFor_91 rfl ?_
          exact x_zret C hr hlk rfl dX12_daysFor_93 hW83
        · skip
          refine x_iload_n C dX12_daysFor_87 rfl 4 rfl rfl ?_
          refine x_goto C (tgt := 93) dX12_daysFor_88 (by decide) ?_
          exact x_zret C hr hlk rfl dX12_daysFor_93 hW83
      · skip
        refine x_iload_n C dX12_daysFor_27 rfl 3 rfl rfl ?_
        refine x_bipush C (v := 60) dX12_daysFor_28 (by decide) rfl ?_
        refine x_icmp_ge C (tgt := 64) dX12_daysFor_30 (by decide) rfl (fun c87 => ?_) (fun c87 => ?_)
        · skip
          have nf88 := nI_le' (a := 60) (b := n) c87 (by omega) (by omega)
          refine x_aload_n C dX12_daysFor_64 rfl 0 rfl rfl ?_
          refine x_iload_n C dX12_daysFor_65 rfl 1 rfl rfl ?_
          refine x_vi C (As := [.int (nI w0)]) (rest := []) (m_isDone E l a cd hG wl19 hWl19 w0 (by omega)) mf_X12_isDone w_1431 0 k41 rfl rfl rfl (Nat.le_of_ble_eq_true rfl) ⟨(Nat.le_of_ble_eq_true rfl), (Nat.le_of_ble_eq_true rfl)⟩ ⟨(Nat.le_of_ble_eq_true rfl), (Nat.le_of_ble_eq_true rfl)⟩ dX12_daysFor_66 rfl (fun r90 w91 h89 => ?_)
          obtain ⟨hW92, zb93⟩ := h89
          refine x_ws hW92 ?_
          refine x_istore C (lv' := [(4, .int r90), (0, .ref (a 0)), (1, .int (nI w0)), (2, .int p1), (3, .int (nI n))]) dX12_daysFor_69 (by decide) rfl rfl ?_
          refine x_aload_n C dX12_daysFor_71 rfl 1 rfl rfl ?_
          refine x_get C (ci := 11) (k := 1) 0 k41 rfl in_X12 (by decide) w_1119 rfl dX12_daysFor_72 rfl ?_
          refine x_aload_n C dX12_daysFor_75 rfl 1 rfl rfl ?_
          refine x_get C (ci := 11) (k := 0) 0 k41 rfl in_X12 (by decide) w_1118 rfl dX12_daysFor_76 rfl ?_
          refine x_sv C (As := [.ref (a 2), .ref (a 1)]) (rest := []) (m_copies21 E l a cd hG wl19 hWl19) mf_X12_copies w_1490 rfl rfl (Nat.le_of_ble_eq_true rfl) ⟨(Nat.le_of_ble_eq_true rfl), (Nat.le_of_ble_eq_true rfl)⟩ ⟨(Nat.le_of_ble_eq_true rfl), (Nat.le_of_ble_eq_true rfl)⟩ dX12_daysFor_79 rfl (fun w96 h94 => ?_)
          obtain ⟨hW97, kq98⟩ := h94
          have k99 : w96[0]? = some (ob (a 0) 11 [.ref (a 1), .ref (a 2), .ref (a 3), .ref (a 4), .int (nI n42), .int (nI n44), .int (nI n46), .int v48, .int v49, .int v50, .int (nI n51), .int (nI n53), .int (nI n55), .int (nI (cd.2.2.2.2.2)), .ref (a 5), .ref (a 6), .ref (a 7), .ref (a 8), .ref (a 9), .ref (a 10), .ref (a 11), .ref (a 12), .ref (a 13), .ref (a 14), .ref (a 15), .ref (a 16), .ref (a 17), .int (nI n57), .ref (a 18), .ref (a 19), .ref (a 20), .ref (a 21), .int v59, .int v60, .int v61, .int v62, .int (nI n63), .int (nI n65), .ref (a 22), .ref (a 23), .ref (a 24), .ref (a 25), .ref (a 26), .ref (a 27), .ref (a 28), .ref (a 29), .ref (a 30), .int v67]) := keeps_at kq98 k41 (by first | decide | omega | (dsimp only; omega))
          refine x_iload C dX12_daysFor_82 0 rfl rfl ?_
          refine x_if_eq C (tgt := 91) dX12_daysFor_84 (by decide) rfl (fun c100 => ?_) (fun c100 => ?_)
          · skip
            refine x_ldc C w_1538 dX12_daysFor_91 rfl ?_
            exact x_zret C hr hlk rfl dX12_daysFor_93 hW97
          · skip
            refine x_iload_n C dX12_daysFor_87 rfl 4 rfl rfl ?_
            refine x_goto C (tgt := 93) dX12_daysFor_88 (by decide) ?_
            exact x_zret C hr hlk rfl dX12_daysFor_93 hW97
        · skip
          have nf101 := nI_nle' (a := 60) (b := n) c87 (by omega) (by omega)
          refine x_aload_n C dX12_daysFor_33 rfl 0 rfl rfl ?_
          refine x_get C (ci := 11) (k := 0) 0 k41 rfl in_X12 (by decide) w_1118 rfl dX12_daysFor_34 rfl ?_
          refine x_sipush C (v := 379) dX12_daysFor_37 (by decide) rfl ?_
          obtain ⟨_, k102, f103, pf104, rfl⟩ := hWl19 1 _ rfl
          obtain ⟨n105, hn106, en107⟩ := NB_day pf104
          refine x_ialk C (v := nI n105) 379 (by decide) (by decide) (by decide) 1 k102 en107 dX12_daysFor_40 rfl ?_
          refine x_sipush C (v := 9999) dX12_daysFor_41 (by decide) rfl ?_
          refine x_icmp_ge C (tgt := 64) dX12_daysFor_44 (by decide) rfl (fun c108 => ?_) (fun c108 => ?_)
          · skip
            have nf109 := nI_le' (a := 9999) (b := n105) c108 (by omega) (by omega)
            refine x_aload_n C dX12_daysFor_64 rfl 0 rfl rfl ?_
            refine x_iload_n C dX12_daysFor_65 rfl 1 rfl rfl ?_
            refine x_vi C (As := [.int (nI w0)]) (rest := []) (m_isDone E l a cd hG wl19 hWl19 w0 (by omega)) mf_X12_isDone w_1431 0 k41 rfl rfl rfl (Nat.le_of_ble_eq_true rfl) ⟨(Nat.le_of_ble_eq_true rfl), (Nat.le_of_ble_eq_true rfl)⟩ ⟨(Nat.le_of_ble_eq_true rfl), (Nat.le_of_ble_eq_true rfl)⟩ dX12_daysFor_66 rfl (fun r111 w112 h110 => ?_)
            obtain ⟨hW113, zb114⟩ := h110
            refine x_ws hW113 ?_
            refine x_istore C (lv' := [(4, .int r111), (0, .ref (a 0)), (1, .int (nI w0)), (2, .int p1), (3, .int (nI n))]) dX12_daysFor_69 (by decide) rfl rfl ?_
            refine x_aload_n C dX12_daysFor_71 rfl 1 rfl rfl ?_
            refine x_get C (ci := 11) (k := 1) 0 k41 rfl in_X12 (by decide) w_1119 rfl dX12_daysFor_72 rfl ?_
            refine x_aload_n C dX12_daysFor_75 rfl 1 rfl rfl ?_
            refine x_get C (ci := 11) (k := 0) 0 k41 rfl in_X12 (by decide) w_1118 rfl dX12_daysFor_76 rfl ?_
            refine x_sv C (As := [.ref (a 2), .ref (a 1)]) (rest := []) (m_copies21 E l a cd hG wl19 hWl19) mf_X12_copies w_1490 rfl rfl (Nat.le_of_ble_eq_true rfl) ⟨(Nat.le_of_ble_eq_true rfl), (Nat.le_of_ble_eq_true rfl)⟩ ⟨(Nat.le_of_ble_eq_true rfl), (Nat.le_of_ble_eq_true rfl)⟩ dX12_daysFor_79 rfl (fun w117 h115 => ?_)
            obtain ⟨hW118, kq119⟩ := h115
            have k120 : w117[0]? = some (ob (a 0) 11 [.ref (a 1), .ref (a 2), .ref (a 3), .ref (a 4), .int (nI n42), .int (nI n44), .int (nI n46), .int v48, .int v49, .int v50, .int (nI n51), .int (nI n53), .int (nI n55), .int (nI (cd.2.2.2.2.2)), .ref (a 5), .ref (a 6), .ref (a 7), .ref (a 8), .ref (a 9), .ref (a 10), .ref (a 11), .ref (a 12), .ref (a 13), .ref (a 14), .ref (a 15), .ref (a 16), .ref (a 17), .int (nI n57), .ref (a 18), .ref (a 19), .ref (a 20), .ref (a 21), .int v59, .int v60, .int v61, .int v62, .int (nI n63), .int (nI n65), .ref (a 22), .ref (a 23), .ref (a 24), .ref (a 25), .ref (a 26), .ref (a 27), .ref (a 28), .ref (a 29), .ref (a 30), .int v67]) := keeps_at kq119 k41 (by first | decide | omega | (dsimp only; omega))
            refine x_iload C dX12_daysFor_82 0 rfl rfl ?_
            refine x_if_eq C (tgt := 91) dX12_daysFor_84 (by decide) rfl (fun c121 => ?_) (fun c121 => ?_)
            · skip
              refine x_ldc C w_1538 dX12_daysFor_91 rfl ?_
              exact x_zret C hr hlk rfl dX12_daysFor_93 hW118
            · skip
              refine x_iload_n C dX12_daysFor_87 rfl 4 rfl rfl ?_
              refine x_goto C (tgt := 93) dX12_daysFor_88 (by decide) ?_
              exact x_zret C hr hlk rfl dX12_daysFor_93 hW118
          · skip
            have nf122 := nI_nle' (a := 9999) (b := n105) c108 (by omega) (by omega)
            refine x_aload_n C dX12_daysFor_47 rfl 0 rfl rfl ?_
            refine x_vv C (As := []) (rest := []) (m_dayGoes E l a cd hG wl19 hWl19 f103 k102 n105 (by omega) en107) mf_X12_dayGoes w_1501 0 k41 rfl rfl rfl (Nat.le_of_ble_eq_true rfl) ⟨(Nat.le_of_ble_eq_true rfl), (Nat.le_of_ble_eq_true rfl)⟩ ⟨(Nat.le_of_ble_eq_true rfl), (Nat.le_of_ble_eq_true rfl)⟩ dX12_daysFor_48 rfl (fun w125 h123 => ?_)
            obtain ⟨hW126, kq127⟩ := h123
            refine x_iload_n C dX12_daysFor_51 rfl 3 rfl rfl ?_
            refine x_iconst C (v := 1) dX12_daysFor_52 (by decide) rfl ?_
            refine x_iadd C (v := (nI (n + 1))) dX12_daysFor_53 (nI_add n 1) rfl ?_
            refine x_istore_n C (lv' := [(3, .int (nI (n + 1))), (0, .ref (a 0)), (1, .int (nI w0)), (2, .int p1)]) dX12_daysFor_54 rfl (by decide) rfl rfl ?_
            refine x_aload_n C dX12_daysFor_55 rfl 1 rfl rfl ?_
            refine x_iload_n C dX12_daysFor_56 rfl 2 rfl rfl ?_
            refine x_iload_n C dX12_daysFor_57 rfl 3 rfl rfl ?_
            obtain ⟨_, k128, n129, n131, n133, v135, v136, v137, n138, n140, n142, n144, v146, v147, v148, v149, n150, n152, v154, bn130, bn132, bn134, bn139, bn141, bn143, bn145, bn151, bn153, zv155, rfl⟩ := hW126 0 _ rfl
            refine x_vv C (As := [.int (nI w0), .int p1]) (rest := []) (m_worksAll E l a cd hG w125 hW126 w0 p1 (by omega)) mf_X12_worksAll w_1654 0 k128 rfl rfl rfl (Nat.le_of_ble_eq_true rfl) ⟨(Nat.le_of_ble_eq_true rfl), (Nat.le_of_ble_eq_true rfl)⟩ ⟨(Nat.le_of_ble_eq_true rfl), (Nat.le_of_ble_eq_true rfl)⟩ dX12_daysFor_58 rfl (fun w158 h156 => ?_)
            obtain ⟨hW159, kq160⟩ := h156
            have k161 : w158[0]? = some (ob (a 0) 11 [.ref (a 1), .ref (a 2), .ref (a 3), .ref (a 4), .int (nI n129), .int (nI n131), .int (nI n133), .int v135, .int v136, .int v137, .int (nI n138), .int (nI n140), .int (nI n142), .int (nI (cd.2.2.2.2.2)), .ref (a 5), .ref (a 6), .ref (a 7), .ref (a 8), .ref (a 9), .ref (a 10), .ref (a 11), .ref (a 12), .ref (a 13), .ref (a 14), .ref (a 15), .ref (a 16), .ref (a 17), .int (nI n144), .ref (a 18), .ref (a 19), .ref (a 20), .ref (a 21), .int v146, .int v147, .int v148, .int v149, .int (nI n150), .int (nI n152), .ref (a 22), .ref (a 23), .ref (a 24), .ref (a 25), .ref (a 26), .ref (a 27), .ref (a 28), .ref (a 29), .ref (a 30), .int v154]) := keeps_at kq160 k128 (by first | decide | omega | (dsimp only; omega))
            refine x_goto C (tgt := 19) dX12_daysFor_61 (by decide) ?_
            refine x_lv (lv1 := [(0, .ref (a 0)), (1, .int (nI w0)), (2, .int p1), (3, .int (nI (n + 1)))]) [1, 2, 3, 0] rfl ?_
            exact ih19 (n + 1) w158 hW159 (by omega) (by omega)
  refine x_lv (lv1 := [(0, .ref (a 0)), (1, .int (nI w0)), (2, .int p1), (3, .int 0)]) [1, 2, 3, 0] rfl ?_
  exact loop19 _ 0 w37 hW38 (Nat.lt_succ_self _) (by omega)
theorem dX12_soonest_0 : decode cX12_soonest 0 = .ok (.aload_n 0, 1) := by decide +kernel
theorem dX12_soonest_1 : decode cX12_soonest 1 = .ok (.iload_n 1, 1) := by decide +kernel
theorem dX12_soonest_2 : decode cX12_soonest 2 = .ok (.invokevirtual 262, 3) := by decide +kernel
theorem dX12_soonest_5 : decode cX12_soonest 5 = .ok (.ifCond .eq 17, 3) := by decide +kernel
theorem dX12_soonest_8 : decode cX12_soonest 8 = .ok (.iload_n 2, 1) := by decide +kernel
theorem dX12_soonest_9 : decode cX12_soonest 9 = .ok (.bipush 8, 2) := by decide +kernel
theorem dX12_soonest_11 : decode cX12_soonest 11 = .ok (.if_icmp .eq 13, 3) := by decide +kernel
theorem dX12_soonest_14 : decode cX12_soonest 14 = .ok (.aload_n 0, 1) := by decide +kernel
theorem dX12_soonest_15 : decode cX12_soonest 15 = .ok (.iload_n 2, 1) := by decide +kernel
theorem dX12_soonest_16 : decode cX12_soonest 16 = .ok (.invokevirtual 113, 3) := by decide +kernel
theorem dX12_soonest_19 : decode cX12_soonest 19 = .ok (.ifCond .ne 5, 3) := by decide +kernel
theorem dX12_soonest_22 : decode cX12_soonest 22 = .ok (.iconst (-1), 1) := by decide +kernel
theorem dX12_soonest_23 : decode cX12_soonest 23 = .ok (.ireturn, 1) := by decide +kernel
theorem dX12_soonest_24 : decode cX12_soonest 24 = .ok (.aload_n 0, 1) := by decide +kernel
theorem dX12_soonest_25 : decode cX12_soonest 25 = .ok (.iload_n 1, 1) := by decide +kernel
theorem dX12_soonest_26 : decode cX12_soonest 26 = .ok (.invokevirtual 265, 3) := by decide +kernel
theorem dX12_soonest_29 : decode cX12_soonest 29 = .ok (.ifCond .eq 6, 3) := by decide +kernel
theorem dX12_soonest_32 : decode cX12_soonest 32 = .ok (.bipush (-3), 2) := by decide +kernel
theorem dX12_soonest_34 : decode cX12_soonest 34 = .ok (.ireturn, 1) := by decide +kernel
theorem dX12_soonest_35 : decode cX12_soonest 35 = .ok (.iload_n 2, 1) := by decide +kernel
theorem dX12_soonest_36 : decode cX12_soonest 36 = .ok (.bipush 8, 2) := by decide +kernel
theorem dX12_soonest_38 : decode cX12_soonest 38 = .ok (.if_icmp .eq 26, 3) := by decide +kernel
theorem dX12_soonest_41 : decode cX12_soonest 41 = .ok (.aload_n 0, 1) := by decide +kernel
theorem dX12_soonest_42 : decode cX12_soonest 42 = .ok (.iload_n 1, 1) := by decide +kernel
theorem dX12_soonest_43 : decode cX12_soonest 43 = .ok (.iload_n 2, 1) := by decide +kernel
theorem dX12_soonest_44 : decode cX12_soonest 44 = .ok (.invokevirtual 396, 3) := by decide +kernel
theorem dX12_soonest_47 : decode cX12_soonest 47 = .ok (.ldc 246, 2) := by decide +kernel
theorem dX12_soonest_49 : decode cX12_soonest 49 = .ok (.if_icmp .ne 8, 3) := by decide +kernel
theorem dX12_soonest_52 : decode cX12_soonest 52 = .ok (.bipush (-2), 2) := by decide +kernel
theorem dX12_soonest_54 : decode cX12_soonest 54 = .ok (.goto 9, 3) := by decide +kernel
theorem dX12_soonest_57 : decode cX12_soonest 57 = .ok (.aload_n 0, 1) := by decide +kernel
theorem dX12_soonest_58 : decode cX12_soonest 58 = .ok (.iload_n 1, 1) := by decide +kernel
theorem dX12_soonest_59 : decode cX12_soonest 59 = .ok (.iload_n 2, 1) := by decide +kernel
theorem dX12_soonest_60 : decode cX12_soonest 60 = .ok (.invokevirtual 396, 3) := by decide +kernel
theorem dX12_soonest_63 : decode cX12_soonest 63 = .ok (.ireturn, 1) := by decide +kernel
theorem dX12_soonest_64 : decode cX12_soonest 64 = .ok (.bipush (-2), 2) := by decide +kernel
theorem dX12_soonest_66 : decode cX12_soonest 66 = .ok (.istore_n 3, 1) := by decide +kernel
theorem dX12_soonest_67 : decode cX12_soonest 67 = .ok (.ldc 246, 2) := by decide +kernel
theorem dX12_soonest_69 : decode cX12_soonest 69 = .ok (.istore 4, 2) := by decide +kernel
theorem dX12_soonest_71 : decode cX12_soonest 71 = .ok (.iconst 0, 1) := by decide +kernel
theorem dX12_soonest_72 : decode cX12_soonest 72 = .ok (.istore 5, 2) := by decide +kernel
theorem dX12_soonest_74 : decode cX12_soonest 74 = .ok (.iload 5, 2) := by decide +kernel
theorem dX12_soonest_76 : decode cX12_soonest 76 = .ok (.bipush 8, 2) := by decide +kernel
theorem dX12_soonest_78 : decode cX12_soonest 78 = .ok (.if_icmp .ge 45, 3) := by decide +kernel
theorem dX12_soonest_81 : decode cX12_soonest 81 = .ok (.aload_n 0, 1) := by decide +kernel
theorem dX12_soonest_82 : decode cX12_soonest 82 = .ok (.iload 5, 2) := by decide +kernel
theorem dX12_soonest_84 : decode cX12_soonest 84 = .ok (.invokevirtual 113, 3) := by decide +kernel
theorem dX12_soonest_87 : decode cX12_soonest 87 = .ok (.ifCond .eq 30, 3) := by decide +kernel
theorem dX12_soonest_90 : decode cX12_soonest 90 = .ok (.aload_n 0, 1) := by decide +kernel
theorem dX12_soonest_91 : decode cX12_soonest 91 = .ok (.iload_n 1, 1) := by decide +kernel
theorem dX12_soonest_92 : decode cX12_soonest 92 = .ok (.iload 5, 2) := by decide +kernel
theorem dX12_soonest_94 : decode cX12_soonest 94 = .ok (.invokevirtual 396, 3) := by decide +kernel
theorem dX12_soonest_97 : decode cX12_soonest 97 = .ok (.iload 4, 2) := by decide +kernel
theorem dX12_soonest_99 : decode cX12_soonest 99 = .ok (.if_icmp .lt 6, 3) := by decide +kernel
theorem dX12_soonest_102 : decode cX12_soonest 102 = .ok (.goto 15, 3) := by decide +kernel
theorem dX12_soonest_105 : decode cX12_soonest 105 = .ok (.aload_n 0, 1) := by decide +kernel
theorem dX12_soonest_106 : decode cX12_soonest 106 = .ok (.iload_n 1, 1) := by decide +kernel
theorem dX12_soonest_107 : decode cX12_soonest 107 = .ok (.iload 5, 2) := by decide +kernel
theorem dX12_soonest_109 : decode cX12_soonest 109 = .ok (.invokevirtual 396, 3) := by decide +kernel
theorem dX12_soonest_112 : decode cX12_soonest 112 = .ok (.istore 4, 2) := by decide +kernel
theorem dX12_soonest_114 : decode cX12_soonest 114 = .ok (.iload 5, 2) := by decide +kernel
theorem dX12_soonest_116 : decode cX12_soonest 116 = .ok (.istore_n 3, 1) := by decide +kernel
theorem dX12_soonest_117 : decode cX12_soonest 117 = .ok (.iinc 5 1, 3) := by decide +kernel
theorem dX12_soonest_120 : decode cX12_soonest 120 = .ok (.goto (-46), 3) := by decide +kernel
theorem dX12_soonest_123 : decode cX12_soonest 123 = .ok (.iload_n 3, 1) := by decide +kernel
theorem dX12_soonest_124 : decode cX12_soonest 124 = .ok (.ireturn, 1) := by decide +kernel
set_option maxRecDepth 20000 in
set_option maxHeartbeats 4000000 in
theorem m_soonest (E : xE) (l : Launch) (a : Nat → Nat) (cd : Cd) (hG : Good cd) (ws : va_W) (hW : WX (okM E a cd) ws) (p0 : Int32) (p1 : Int32) : xI E l yX12_soonest cX12_soonest 6 (some .int) 8 [.ref (a 0), .int p0, .int p1] ws (fun r w => WX (okM E a cd) w) := by
  refine xI_start (lv := [(0, .ref (a 0)), (1, .int p0), (2, .int p1)]) RX12 (by decide) rfl (Nat.le_of_ble_eq_true rfl) rfl (fun p e s m below meth c A C hr hlk => ?_)
  refine x_aload_n C dX12_soonest_0 rfl 0 rfl rfl ?_
  refine x_iload_n C dX12_soonest_1 rfl 1 rfl rfl ?_
  obtain ⟨_, k1, n2, n4, n6, v8, v9, v10, n11, n13, n15, n17, v19, v20, v21, v22, n23, n25, v27, bn3, bn5, bn7, bn12, bn14, bn16, bn18, bn24, bn26, zv28, rfl⟩ := hW 0 _ rfl
  refine x_vi C (As := [.int p0]) (rest := []) (m_isWork E l a cd hG ws hW p0) mf_X12_isWork w_1427 0 k1 rfl rfl rfl (Nat.le_of_ble_eq_true rfl) ⟨(Nat.le_of_ble_eq_true rfl), (Nat.le_of_ble_eq_true rfl)⟩ ⟨(Nat.le_of_ble_eq_true rfl), (Nat.le_of_ble_eq_true rfl)⟩ dX12_soonest_2 rfl (fun r30 w31 h29 => ?_)
  obtain ⟨hW32, zb33, x34⟩ := h29
  refine x_ws hW32 ?_
  refine x_if_eq C (tgt := 22) dX12_soonest_5 (by decide) rfl (fun c35 => ?_) (fun c35 => ?_)
  · skip
    refine x_iconst C (v := (-1)) dX12_soonest_22 (by decide) rfl ?_
    exact x_zret C hr hlk rfl dX12_soonest_23 hW
  · skip
    obtain ⟨j36, hl37, hh38, ej39⟩ := w_nat (a := 0) (b := 7) (by decide) (by decide) (x34 c35)
    subst ej39
    refine x_iload_n C dX12_soonest_8 rfl 2 rfl rfl ?_
    refine x_bipush C (v := 8) dX12_soonest_9 (by decide) rfl ?_
    refine x_icmp_eq C (tgt := 24) dX12_soonest_11 (by decide) rfl (fun c40 => ?_) (fun c40 => ?_)
    · skip
      refine x_aload_n C dX12_soonest_24 rfl 0 rfl rfl ?_
      refine x_iload_n C dX12_soonest_25 rfl 1 rfl rfl ?_
      refine x_vi C (As := [.int (nI j36)]) (rest := []) (m_isDone E l a cd hG ws hW j36 (by omega)) mf_X12_isDone w_1431 0 k1 rfl rfl rfl (Nat.le_of_ble_eq_true rfl) ⟨(Nat.le_of_ble_eq_true rfl), (Nat.le_of_ble_eq_true rfl)⟩ ⟨(Nat.le_of_ble_eq_true rfl), (Nat.le_of_ble_eq_true rfl)⟩ dX12_soonest_26 rfl (fun r42 w43 h41 => ?_)
      obtain ⟨hW44, zb45⟩ := h41
      refine x_ws hW44 ?_
      refine x_if_eq C (tgt := 35) dX12_soonest_29 (by decide) rfl (fun c46 => ?_) (fun c46 => ?_)
      · skip
        refine x_iload_n C dX12_soonest_35 rfl 2 rfl rfl ?_
        refine x_bipush C (v := 8) dX12_soonest_36 (by decide) rfl ?_
        refine x_icmp_eq C (tgt := 64) dX12_soonest_38 (by decide) rfl (fun c47 => ?_) (fun c47 => ?_)
        · skip
          refine x_bipush C (v := (-2)) dX12_soonest_64 (by decide) rfl ?_
          refine x_istore_n C (lv' := [(3, .int (-2)), (0, .ref (a 0)), (1, .int (nI j36)), (2, .int p1)]) dX12_soonest_66 rfl (by decide) rfl rfl ?_
          refine x_ldc C w_1538 dX12_soonest_67 rfl ?_
          refine x_istore C (lv' := [(4, .int 1000000000), (3, .int (-2)), (0, .ref (a 0)), (1, .int (nI j36)), (2, .int p1)]) dX12_soonest_69 (by decide) rfl rfl ?_
          refine x_iconst C (v := 0) dX12_soonest_71 (by decide) rfl ?_
          refine x_istore C (lv' := [(5, .int 0), (4, .int 1000000000), (3, .int (-2)), (0, .ref (a 0)), (1, .int (nI j36)), (2, .int p1)]) dX12_soonest_72 (by decide) rfl rfl ?_
          have loop74 : ∀ (fu74 : Nat) (z74_3 : Int32) (z74_4 : Int32) (wh : Nat) (wl74 : va_W), WX (okM E a cd) wl74 → 8 - wh < fu74 → wh ≤ 8 → X E p l e (xRm 8 0 0) s m ([.ref (a 0), .int (nI j36), .int p1] : List Value).toArray below meth c A 6 0 0 (MQ below (va_Qi (fun r w => WX (okM E a cd) w) (xB E A) A) ([.ref (a 0), .int (nI j36), .int p1] : List Value).toArray s 0 0 A) wl74 74 [(0, .ref (a 0)), (1, .int (nI j36)), (2, .int p1), (3, .int z74_3), (4, .int z74_4), (5, .int (nI wh))] [] := by
            intro fu74
            induction fu74 with
            | zero => intro z74_3 z74_4 wh wl74 _ q; omega
            | succ fu74 ih74 =>
              intro z74_3 z74_4 wh wl74 hWl74 me74 iv74_0
              refine x_iload C dX12_soonest_74 5 rfl rfl ?_
              refine x_bipush C (v := 8) dX12_soonest_76 (by decide) rfl ?_
              refine x_icmp_ge C (tgt := 123) dX12_soonest_78 (by decide) rfl (fun c48 => ?_) (fun c48 => ?_)
              · skip
                have nf49 := nI_le' (a := 8) (b := wh) c48 (by omega) (by omega)
                refine x_iload_n C dX12_soonest_123 rfl 3 rfl rfl ?_
                exact x_zret C hr hlk rfl dX12_soonest_124 hWl74
              · skip
                have nf50 := nI_nle' (a := 8) (b := wh) c48 (by omega) (by omega)
                refine x_aload_n C dX12_soonest_81 rfl 0 rfl rfl ?_
                refine x_iload C dX12_soonest_82 5 rfl rfl ?_
                obtain ⟨_, k51, n52, n54, n56, v58, v59, v60, n61, n63, n65, n67, v69, v70, v71, v72, n73, n75, v77, bn53, bn55, bn57, bn62, bn64, bn66, bn68, bn74, bn76, zv78, rfl⟩ := hWl74 0 _ rfl
                refine x_vi C (As := [.int (nI wh)]) (rest := []) (m_isPerson E l a cd hG wl74 hWl74 ((nI wh))) mf_X12_isPerson w_1270 0 k51 rfl rfl rfl (Nat.le_of_ble_eq_true rfl) ⟨(Nat.le_of_ble_eq_true rfl), (Nat.le_of_ble_eq_true rfl)⟩ ⟨(Nat.le_of_ble_eq_true rfl), (Nat.le_of_ble_eq_true rfl)⟩ dX12_soonest_84 rfl (fun r80 w81 h79 => ?_)
                obtain ⟨hW82, zb83, x84⟩ := h79
                refine x_ws hW82 ?_
                refine x_if_eq C (tgt := 117) dX12_soonest_87 (by decide) rfl (fun c85 => ?_) (fun c85 => ?_)
                · skip
                  refine x_iinc C (v := (nI (wh + 1))) (lv' := [(5, .int (nI (wh + 1))), (0, .ref (a 0)), (1, .int (nI j36)), (2, .int p1), (3, .int z74_3), (4, .int z74_4)]) dX12_soonest_117 5 rfl (nI_add wh 1) (by decide) rfl rfl ?_
                  refine x_goto C (tgt := 74) dX12_soonest_120 (by decide) ?_
                  refine x_lv (lv1 := [(0, .ref (a 0)), (1, .int (nI j36)), (2, .int p1), (3, .int z74_3), (4, .int z74_4), (5, .int (nI (wh + 1)))]) [1, 2, 3, 4, 5, 0] rfl ?_
                  exact ih74 z74_3 z74_4 (wh + 1) wl74 hWl74 (by omega) (by omega)
                · skip
                  have wi86 := wth_le (a := 0) (b := 7) (j := wh) (x84 c85) (by omega) (by decide) (by decide)
                  refine x_aload_n C dX12_soonest_90 rfl 0 rfl rfl ?_
                  refine x_iload_n C dX12_soonest_91 rfl 1 rfl rfl ?_
                  refine x_iload C dX12_soonest_92 5 rfl rfl ?_
                  refine x_vi C (As := [.int (nI j36), .int (nI wh)]) (rest := []) (m_daysFor E l a cd hG wl74 hWl74 j36 ((nI wh)) (by omega)) mf_X12_daysFor w_1650 0 k51 rfl rfl rfl (Nat.le_of_ble_eq_true rfl) ⟨(Nat.le_of_ble_eq_true rfl), (Nat.le_of_ble_eq_true rfl)⟩ ⟨(Nat.le_of_ble_eq_true rfl), (Nat.le_of_ble_eq_true rfl)⟩ dX12_soonest_94 rfl (fun r88 w89 h87 => ?_)
                  have hW90 := h87
                  refine x_iload C dX12_soonest_97 4 rfl rfl ?_
                  refine x_icmp_lt C (tgt := 105) dX12_soonest_99 (by decide) rfl (fun c91 => ?_) (fun c91 => ?_)
                  · skip
                    refine x_aload_n C dX12_soonest_105 rfl 0 rfl rfl ?_
                    refine x_iload_n C dX12_soonest_106 rfl 1 rfl rfl ?_
                    refine x_iload C dX12_soonest_107 5 rfl rfl ?_
                    obtain ⟨_, k92, n93, n95, n97, v99, v100, v101, n102, n104, n106, n108, v110, v111, v112, v113, n114, n116, v118, bn94, bn96, bn98, bn103, bn105, bn107, bn109, bn115, bn117, zv119, rfl⟩ := hW90 0 _ rfl
                    refine x_vi C (As := [.int (nI j36), .int (nI wh)]) (rest := []) (m_daysFor E l a cd hG w89 hW90 j36 ((nI wh)) (by omega)) mf_X12_daysFor w_1650 0 k92 rfl rfl rfl (Nat.le_of_ble_eq_true rfl) ⟨(Nat.le_of_ble_eq_true rfl), (Nat.le_of_ble_eq_true rfl)⟩ ⟨(Nat.le_of_ble_eq_true rfl), (Nat.le_of_ble_eq_true rfl)⟩ dX12_soonest_109 rfl (fun r121 w122 h120 => ?_)
                    have hW123 := h120
                    refine x_istore C (lv' := [(4, .int r121), (0, .ref (a 0)), (1, .int (nI j36)), (2, .int p1), (3, .int z74_3), (5, .int (nI wh))]) dX12_soonest_112 (by decide) rfl rfl ?_
                    refine x_iload C dX12_soonest_114 5 rfl rfl ?_
                    refine x_istore_n C (lv' := [(3, .int (nI wh)), (4, .int r121), (0, .ref (a 0)), (1, .int (nI j36)), (2, .int p1), (5, .int (nI wh))]) dX12_soonest_116 rfl (by decide) rfl rfl ?_
                    refine x_iinc C (v := (nI (wh + 1))) (lv' := [(5, .int (nI (wh + 1))), (3, .int (nI wh)), (4, .int r121), (0, .ref (a 0)), (1, .int (nI j36)), (2, .int p1)]) dX12_soonest_117 5 rfl (nI_add wh 1) (by decide) rfl rfl ?_
                    refine x_goto C (tgt := 74) dX12_soonest_120 (by decide) ?_
                    refine x_lv (lv1 := [(0, .ref (a 0)), (1, .int (nI j36)), (2, .int p1), (3, .int (nI wh)), (4, .int r121), (5, .int (nI (wh + 1)))]) [3, 4, 5, 1, 2, 0] rfl ?_
                    exact ih74 ((nI wh)) r121 (wh + 1) w122 hW123 (by omega) (by omega)
                  · skip
                    refine x_goto C (tgt := 117) dX12_soonest_102 (by decide) ?_
                    refine x_iinc C (v := (nI (wh + 1))) (lv' := [(5, .int (nI (wh + 1))), (0, .ref (a 0)), (1, .int (nI j36)), (2, .int p1), (3, .int z74_3), (4, .int z74_4)]) dX12_soonest_117 5 rfl (nI_add wh 1) (by decide) rfl rfl ?_
                    refine x_goto C (tgt := 74) dX12_soonest_120 (by decide) ?_
                    refine x_lv (lv1 := [(0, .ref (a 0)), (1, .int (nI j36)), (2, .int p1), (3, .int z74_3), (4, .int z74_4), (5, .int (nI (wh + 1)))]) [1, 2, 3, 4, 5, 0] rfl ?_
                    exact ih74 z74_3 z74_4 (wh + 1) w89 hW90 (by omega) (by omega)
          refine x_lv (lv1 := [(0, .ref (a 0)), (1, .int (nI j36)), (2, .int p1), (3, .int (-2)), (4, .int 1000000000), (5, .int 0)]) [3, 4, 5, 2, 1, 0] rfl ?_
          exact loop74 _ ((-2) : Int32) (1000000000 : Int32) 0 ws hW (Nat.lt_succ_self _) (by omega)
        · skip
          refine x_aload_n C dX12_soonest_41 rfl 0 rfl rfl ?_
          refine x_iload_n C dX12_soonest_42 rfl 1 rfl rfl ?_
          refine x_iload_n C dX12_soonest_43 rfl 2 rfl rfl ?_
          refine x_vi C (As := [.int (nI j36), .int p1]) (rest := []) (m_daysFor E l a cd hG ws hW j36 p1 (by omega)) mf_X12_daysFor w_1650 0 k1 rfl rfl rfl (Nat.le_of_ble_eq_true rfl) ⟨(Nat.le_of_ble_eq_true rfl), (Nat.le_of_ble_eq_true rfl)⟩ ⟨(Nat.le_of_ble_eq_true rfl), (Nat.le_of_ble_eq_true rfl)⟩ dX12_soonest_44 rfl (fun r125 w126 h124 => ?_)
          have hW127 := h124
          refine x_ldc C w_1538 dX12_soonest_47 rfl ?_
          refine x_icmp_ne C (tgt := 57) dX12_soonest_49 (by decide) rfl (fun c128 => ?_) (fun c128 => ?_)
          · skip
            refine x_aload_n C dX12_soonest_57 rfl 0 rfl rfl ?_
            refine x_iload_n C dX12_soonest_58 rfl 1 rfl rfl ?_
            refine x_iload_n C dX12_soonest_59 rfl 2 rfl rfl ?_
            obtain ⟨_, k129, n130, n132, n134, v136, v137, v138, n139, n141, n143, n145, v147, v148, v149, v150, n151, n153, v155, bn131, bn133, bn135, bn140, bn142, bn144, bn146, bn152, bn154, zv156, rfl⟩ := hW127 0 _ rfl
            refine x_vi C (As := [.int (nI j36), .int p1]) (rest := []) (m_daysFor E l a cd hG w126 hW127 j36 p1 (by omega)) mf_X12_daysFor w_1650 0 k129 rfl rfl rfl (Nat.le_of_ble_eq_true rfl) ⟨(Nat.le_of_ble_eq_true rfl), (Nat.le_of_ble_eq_true rfl)⟩ ⟨(Nat.le_of_ble_eq_true rfl), (Nat.le_of_ble_eq_true rfl)⟩ dX12_soonest_60 rfl (fun r158 w159 h157 => ?_)
            have hW160 := h157
            exact x_zret C hr hlk rfl dX12_soonest_63 hW160
          · skip
            refine x_bipush C (v := (-2)) dX12_soonest_52 (by decide) rfl ?_
            refine x_goto C (tgt := 63) dX12_soonest_54 (by decide) ?_
            exact x_zret C hr hlk rfl dX12_soonest_63 hW127
      · skip
        refine x_bipush C (v := (-3)) dX12_soonest_32 (by decide) rfl ?_
        exact x_zret C hr hlk rfl dX12_soonest_34 hW
    · skip
      refine x_aload_n C dX12_soonest_14 rfl 0 rfl rfl ?_
      refine x_iload_n C dX12_soonest_15 rfl 2 rfl rfl ?_
      refine x_vi C (As := [.int p1]) (rest := []) (m_isPerson E l a cd hG ws hW p1) mf_X12_isPerson w_1270 0 k1 rfl rfl rfl (Nat.le_of_ble_eq_true rfl) ⟨(Nat.le_of_ble_eq_true rfl), (Nat.le_of_ble_eq_true rfl)⟩ ⟨(Nat.le_of_ble_eq_true rfl), (Nat.le_of_ble_eq_true rfl)⟩ dX12_soonest_16 rfl (fun r162 w163 h161 => ?_)
      obtain ⟨hW164, zb165, x166⟩ := h161
      refine x_ws hW164 ?_
      refine x_if_ne C (tgt := 24) dX12_soonest_19 (by decide) rfl (fun c167 => ?_) (fun c167 => ?_)
      · skip
        obtain ⟨j168, hl169, hh170, ej171⟩ := w_nat (a := 0) (b := 7) (by decide) (by decide) (x166 c167)
        subst ej171
        refine x_aload_n C dX12_soonest_24 rfl 0 rfl rfl ?_
        refine x_iload_n C dX12_soonest_25 rfl 1 rfl rfl ?_
        refine x_vi C (As := [.int (nI j36)]) (rest := []) (m_isDone E l a cd hG ws hW j36 (by omega)) mf_X12_isDone w_1431 0 k1 rfl rfl rfl (Nat.le_of_ble_eq_true rfl) ⟨(Nat.le_of_ble_eq_true rfl), (Nat.le_of_ble_eq_true rfl)⟩ ⟨(Nat.le_of_ble_eq_true rfl), (Nat.le_of_ble_eq_true rfl)⟩ dX12_soonest_26 rfl (fun r173 w174 h172 => ?_)
        obtain ⟨hW175, zb176⟩ := h172
        refine x_ws hW175 ?_
        refine x_if_eq C (tgt := 35) dX12_soonest_29 (by decide) rfl (fun c177 => ?_) (fun c177 => ?_)
        · skip
          refine x_iload_n C dX12_soonest_35 rfl 2 rfl rfl ?_
          refine x_bipush C (v := 8) dX12_soonest_36 (by decide) rfl ?_
          refine x_icmp_eq C (tgt := 64) dX12_soonest_38 (by decide) rfl (fun c178 => ?_) (fun c178 => ?_)
          · skip
            have nf179 : j168 = 8 := (nI_eq (by omega) (by omega)).mp c178
            refine x_bipush C (v := (-2)) dX12_soonest_64 (by decide) rfl ?_
            refine x_istore_n C (lv' := [(3, .int (-2)), (0, .ref (a 0)), (1, .int (nI j36)), (2, .int (nI j168))]) dX12_soonest_66 rfl (by decide) rfl rfl ?_
            refine x_ldc C w_1538 dX12_soonest_67 rfl ?_
            refine x_istore C (lv' := [(4, .int 1000000000), (3, .int (-2)), (0, .ref (a 0)), (1, .int (nI j36)), (2, .int (nI j168))]) dX12_soonest_69 (by decide) rfl rfl ?_
            refine x_iconst C (v := 0) dX12_soonest_71 (by decide) rfl ?_
            refine x_istore C (lv' := [(5, .int 0), (4, .int 1000000000), (3, .int (-2)), (0, .ref (a 0)), (1, .int (nI j36)), (2, .int (nI j168))]) dX12_soonest_72 (by decide) rfl rfl ?_
            have loop74 : ∀ (fu74 : Nat) (z74_3 : Int32) (z74_4 : Int32) (wh : Nat) (wl74 : va_W), WX (okM E a cd) wl74 → 8 - wh < fu74 → wh ≤ 8 → X E p l e (xRm 8 0 0) s m ([.ref (a 0), .int (nI j36), .int (nI j168)] : List Value).toArray below meth c A 6 0 0 (MQ below (va_Qi (fun r w => WX (okM E a cd) w) (xB E A) A) ([.ref (a 0), .int (nI j36), .int (nI j168)] : List Value).toArray s 0 0 A) wl74 74 [(0, .ref (a 0)), (1, .int (nI j36)), (2, .int (nI j168)), (3, .int z74_3), (4, .int z74_4), (5, .int (nI wh))] [] := by
              intro fu74
              induction fu74 with
              | zero => intro z74_3 z74_4 wh wl74 _ q; omega
              | succ fu74 ih74 =>
                intro z74_3 z74_4 wh wl74 hWl74 me74 iv74_0
                refine x_iload C dX12_soonest_74 5 rfl rfl ?_
                refine x_bipush C (v := 8) dX12_soonest_76 (by decide) rfl ?_
                refine x_icmp_ge C (tgt := 123) dX12_soonest_78 (by decide) rfl (fun c180 => ?_) (fun c180 => ?_)
                · skip
                  have nf181 := nI_le' (a := 8) (b := wh) c180 (by omega) (by omega)
                  refine x_iload_n C dX12_soonest_123 rfl 3 rfl rfl ?_
                  exact x_zret C hr hlk rfl dX12_soonest_124 hWl74
                · skip
                  have nf182 := nI_nle' (a := 8) (b := wh) c180 (by omega) (by omega)
                  refine x_aload_n C dX12_soonest_81 rfl 0 rfl rfl ?_
                  refine x_iload C dX12_soonest_82 5 rfl rfl ?_
                  obtain ⟨_, k183, n184, n186, n188, v190, v191, v192, n193, n195, n197, n199, v201, v202, v203, v204, n205, n207, v209, bn185, bn187, bn189, bn194, bn196, bn198, bn200, bn206, bn208, zv210, rfl⟩ := hWl74 0 _ rfl
                  refine x_vi C (As := [.int (nI wh)]) (rest := []) (m_isPerson E l a cd hG wl74 hWl74 ((nI wh))) mf_X12_isPerson w_1270 0 k183 rfl rfl rfl (Nat.le_of_ble_eq_true rfl) ⟨(Nat.le_of_ble_eq_true rfl), (Nat.le_of_ble_eq_true rfl)⟩ ⟨(Nat.le_of_ble_eq_true rfl), (Nat.le_of_ble_eq_true rfl)⟩ dX12_soonest_84 rfl (fun r212 w213 h211 => ?_)
                  obtain ⟨hW214, zb215, x216⟩ := h211
                  refine x_ws hW214 ?_
                  refine x_if_eq C (tgt := 117) dX12_soonest_87 (by decide) rfl (fun c217 => ?_) (fun c217 => ?_)
                  · skip
                    refine x_iinc C (v := (nI (wh + 1))) (lv' := [(5, .int (nI (wh + 1))), (0, .ref (a 0)), (1, .int (nI j36)), (2, .int (nI j168)), (3, .int z74_3), (4, .int z74_4)]) dX12_soonest_117 5 rfl (nI_add wh 1) (by decide) rfl rfl ?_
                    refine x_goto C (tgt := 74) dX12_soonest_120 (by decide) ?_
                    refine x_lv (lv1 := [(0, .ref (a 0)), (1, .int (nI j36)), (2, .int (nI j168)), (3, .int z74_3), (4, .int z74_4), (5, .int (nI (wh + 1)))]) [1, 2, 3, 4, 5, 0] rfl ?_
                    exact ih74 z74_3 z74_4 (wh + 1) wl74 hWl74 (by omega) (by omega)
                  · skip
                    have wi218 := wth_le (a := 0) (b := 7) (j := wh) (x216 c217) (by omega) (by decide) (by decide)
                    refine x_aload_n C dX12_soonest_90 rfl 0 rfl rfl ?_
                    refine x_iload_n C dX12_soonest_91 rfl 1 rfl rfl ?_
                    refine x_iload C dX12_soonest_92 5 rfl rfl ?_
                    refine x_vi C (As := [.int (nI j36), .int (nI wh)]) (rest := []) (m_daysFor E l a cd hG wl74 hWl74 j36 ((nI wh)) (by omega)) mf_X12_daysFor w_1650 0 k183 rfl rfl rfl (Nat.le_of_ble_eq_true rfl) ⟨(Nat.le_of_ble_eq_true rfl), (Nat.le_of_ble_eq_true rfl)⟩ ⟨(Nat.le_of_ble_eq_true rfl), (Nat.le_of_ble_eq_true rfl)⟩ dX12_soonest_94 rfl (fun r220 w221 h219 => ?_)
                    have hW222 := h219
                    refine x_iload C dX12_soonest_97 4 rfl rfl ?_
                    refine x_icmp_lt C (tgt := 105) dX12_soonest_99 (by decide) rfl (fun c223 => ?_) (fun c223 => ?_)
                    · skip
                      refine x_aload_n C dX12_soonest_105 rfl 0 rfl rfl ?_
                      refine x_iload_n C dX12_soonest_106 rfl 1 rfl rfl ?_
                      refine x_iload C dX12_soonest_107 5 rfl rfl ?_
                      obtain ⟨_, k224, n225, n227, n229, v231, v232, v233, n234, n236, n238, n240, v242, v243, v244, v245, n246, n248, v250, bn226, bn228, bn230, bn235, bn237, bn239, bn241, bn247, bn249, zv251, rfl⟩ := hW222 0 _ rfl
                      refine x_vi C (As := [.int (nI j36), .int (nI wh)]) (rest := []) (m_daysFor E l a cd hG w221 hW222 j36 ((nI wh)) (by omega)) mf_X12_daysFor w_1650 0 k224 rfl rfl rfl (Nat.le_of_ble_eq_true rfl) ⟨(Nat.le_of_ble_eq_true rfl), (Nat.le_of_ble_eq_true rfl)⟩ ⟨(Nat.le_of_ble_eq_true rfl), (Nat.le_of_ble_eq_true rfl)⟩ dX12_soonest_109 rfl (fun r253 w254 h252 => ?_)
                      have hW255 := h252
                      refine x_istore C (lv' := [(4, .int r253), (0, .ref (a 0)), (1, .int (nI j36)), (2, .int (nI j168)), (3, .int z74_3), (5, .int (nI wh))]) dX12_soonest_112 (by decide) rfl rfl ?_
                      refine x_iload C dX12_soonest_114 5 rfl rfl ?_
                      refine x_istore_n C (lv' := [(3, .int (nI wh)), (4, .int r253), (0, .ref (a 0)), (1, .int (nI j36)), (2, .int (nI j168)), (5, .int (nI wh))]) dX12_soonest_116 rfl (by decide) rfl rfl ?_
                      refine x_iinc C (v := (nI (wh + 1))) (lv' := [(5, .int (nI (wh + 1))), (3, .int (nI wh)), (4, .int r253), (0, .ref (a 0)), (1, .int (nI j36)), (2, .int (nI j168))]) dX12_soonest_117 5 rfl (nI_add wh 1) (by decide) rfl rfl ?_
                      refine x_goto C (tgt := 74) dX12_soonest_120 (by decide) ?_
                      refine x_lv (lv1 := [(0, .ref (a 0)), (1, .int (nI j36)), (2, .int (nI j168)), (3, .int (nI wh)), (4, .int r253), (5, .int (nI (wh + 1)))]) [3, 4, 5, 1, 2, 0] rfl ?_
                      exact ih74 ((nI wh)) r253 (wh + 1) w254 hW255 (by omega) (by omega)
                    · skip
                      refine x_goto C (tgt := 117) dX12_soonest_102 (by decide) ?_
                      refine x_iinc C (v := (nI (wh + 1))) (lv' := [(5, .int (nI (wh + 1))), (0, .ref (a 0)), (1, .int (nI j36)), (2, .int (nI j168)), (3, .int z74_3), (4, .int z74_4)]) dX12_soonest_117 5 rfl (nI_add wh 1) (by decide) rfl rfl ?_
                      refine x_goto C (tgt := 74) dX12_soonest_120 (by decide) ?_
                      refine x_lv (lv1 := [(0, .ref (a 0)), (1, .int (nI j36)), (2, .int (nI j168)), (3, .int z74_3), (4, .int z74_4), (5, .int (nI (wh + 1)))]) [1, 2, 3, 4, 5, 0] rfl ?_
                      exact ih74 z74_3 z74_4 (wh + 1) w221 hW222 (by omega) (by omega)
            refine x_lv (lv1 := [(0, .ref (a 0)), (1, .int (nI j36)), (2, .int (nI j168)), (3, .int (-2)), (4, .int 1000000000), (5, .int 0)]) [3, 4, 5, 2, 1, 0] rfl ?_
            exact loop74 _ ((-2) : Int32) (1000000000 : Int32) 0 ws hW (Nat.lt_succ_self _) (by omega)
          · skip
            have nf256 : ¬ j168 = 8 := fun q => c178 (congrArg nI q)
            refine x_aload_n C dX12_soonest_41 rfl 0 rfl rfl ?_
            refine x_iload_n C dX12_soonest_42 rfl 1 rfl rfl ?_
            refine x_iload_n C dX12_soonest_43 rfl 2 rfl rfl ?_
            refine x_vi C (As := [.int (nI j36), .int (nI j168)]) (rest := []) (m_daysFor E l a cd hG ws hW j36 ((nI j168)) (by omega)) mf_X12_daysFor w_1650 0 k1 rfl rfl rfl (Nat.le_of_ble_eq_true rfl) ⟨(Nat.le_of_ble_eq_true rfl), (Nat.le_of_ble_eq_true rfl)⟩ ⟨(Nat.le_of_ble_eq_true rfl), (Nat.le_of_ble_eq_true rfl)⟩ dX12_soonest_44 rfl (fun r258 w259 h257 => ?_)
            have hW260 := h257
            refine x_ldc C w_1538 dX12_soonest_47 rfl ?_
            refine x_icmp_ne C (tgt := 57) dX12_soonest_49 (by decide) rfl (fun c261 => ?_) (fun c261 => ?_)
            · skip
              refine x_aload_n C dX12_soonest_57 rfl 0 rfl rfl ?_
              refine x_iload_n C dX12_soonest_58 rfl 1 rfl rfl ?_
              refine x_iload_n C dX12_soonest_59 rfl 2 rfl rfl ?_
              obtain ⟨_, k262, n263, n265, n267, v269, v270, v271, n272, n274, n276, n278, v280, v281, v282, v283, n284, n286, v288, bn264, bn266, bn268, bn273, bn275, bn277, bn279, bn285, bn287, zv289, rfl⟩ := hW260 0 _ rfl
              refine x_vi C (As := [.int (nI j36), .int (nI j168)]) (rest := []) (m_daysFor E l a cd hG w259 hW260 j36 ((nI j168)) (by omega)) mf_X12_daysFor w_1650 0 k262 rfl rfl rfl (Nat.le_of_ble_eq_true rfl) ⟨(Nat.le_of_ble_eq_true rfl), (Nat.le_of_ble_eq_true rfl)⟩ ⟨(Nat.le_of_ble_eq_true rfl), (Nat.le_of_ble_eq_true rfl)⟩ dX12_soonest_60 rfl (fun r291 w292 h290 => ?_)
              have hW293 := h290
              exact x_zret C hr hlk rfl dX12_soonest_63 hW293
            · skip
              refine x_bipush C (v := (-2)) dX12_soonest_52 (by decide) rfl ?_
              refine x_goto C (tgt := 63) dX12_soonest_54 (by decide) ?_
              exact x_zret C hr hlk rfl dX12_soonest_63 hW260
        · skip
          refine x_bipush C (v := (-3)) dX12_soonest_32 (by decide) rfl ?_
          exact x_zret C hr hlk rfl dX12_soonest_34 hW
      · skip
        refine x_iconst C (v := (-1)) dX12_soonest_22 (by decide) rfl ?_
        exact x_zret C hr hlk rfl dX12_soonest_23 hW
