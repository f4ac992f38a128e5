theorem zf_step {g : Nat → Int32} {k : Nat} (hz : ∀ j, j < k → g j = 0) : ∀ j, j < k + 1 → upd g k 0 j = 0 := by
  intro j hj
  by_cases e : j = k
  · subst e; rw [pk_us]
  · rw [pk_un e]; exact hz j (by omega)
/-- the facts as they stand: F on its first eleven places -/
def fcK (E : xE) (a : Nat → Nat) (w : va_W) (F : Nat → Int32) : Prop := ∃ g : Nat → Int32, w[17]? = some (iA E (a 17) 11 g) ∧ clip g = clip F
def fl0 (fn : Nat → Int32) : Nat → Int32 := upd (upd (fun _ => 0) 0 (fn 379)) 1 (fn 379 - fn 379 / 7 * 7)
def flH (fn : Nat → Int32) (y d : Int32) (yn : Nat) : Nat → Int32 := upd (upd (upd (upd (fl0 fn) 2 y) 3 (fn (321 + yn))) 4 d) 8 (fn (329 + yn))
def flE (fn : Nat → Int32) (i : Nat) : Nat → Int32 := upd (upd (upd (upd (upd (upd (fl0 fn) 2 (fn (96 + i))) 3 (fn (321 + (fn (96 + i)).toNatClampNeg))) 5 (fn (0 + i))) 6 (fn 379 - fn (48 + i))) 7 (fn (192 + i))) 8 (fn (144 + i))
def wFor (cd : Cd) (fn : Nat → Int32) (i : Nat) (wk : Int32) : Int32 := bL cd (clip (upd (flE fn i) 9 wk)) 116 (nI 240) 17 0
theorem fc_zero {E : xE} {a : Nat → Nat} {w : va_W} {g fn : Nat → Int32} (h : w[17]? = some (iA E (a 17) 11 (upd (upd g 0 (fn 379)) 1 (fn 379 - fn 379 / 7 * 7)))) (hz : ∀ j, j < 11 → g j = 0) : fcK E a w (fl0 fn) := ⟨_, h, clip_upd (clip_upd (clip_eq hz))⟩
/-- now's day stays -/
def dyK (E : xE) (a : Nat → Nat) (jn : Lb) (ws w : va_W) : Prop := ∀ f : Nat → Int32, ws[1]? = some (iA E (a 1) 382 f) → ∃ f' : Nat → Int32, w[1]? = some (iA E (a 1) 382 f') ∧ NB jn f' ∧ f' 379 = f 379
theorem dyK_of {E : xE} {a : Nat → Nat} {jn : Lb} {ws w : va_W} {f f' : Nat → Int32} (h : ws[1]? = some (iA E (a 1) 382 f)) (h' : w[1]? = some (iA E (a 1) 382 f')) (hn : NB jn f') (e : f' 379 = f 379) : dyK E a jn ws w := fun g hg => ⟨f', h', hn, by rw [e, iA_inj (hg.symm.trans h)]⟩
theorem dX12_feels_0 : decode cX12_feels 0 = .ok (.iconst 0, 1) := by decide +kernel
theorem dX12_feels_1 : decode cX12_feels 1 = .ok (.istore_n 1, 1) := by decide +kernel
theorem dX12_feels_2 : decode cX12_feels 2 = .ok (.iload_n 1, 1) := by decide +kernel
theorem dX12_feels_3 : decode cX12_feels 3 = .ok (.bipush 11, 2) := by decide +kernel
theorem dX12_feels_5 : decode cX12_feels 5 = .ok (.if_icmp .ge 16, 3) := by decide +kernel
theorem dX12_feels_8 : decode cX12_feels 8 = .ok (.aload_n 0, 1) := by decide +kernel
theorem dX12_feels_9 : decode cX12_feels 9 = .ok (.getfield 59, 3) := by decide +kernel
theorem dX12_feels_12 : decode cX12_feels 12 = .ok (.iload_n 1, 1) := by decide +kernel
theorem dX12_feels_13 : decode cX12_feels 13 = .ok (.iconst 0, 1) := by decide +kernel
theorem dX12_feels_14 : decode cX12_feels 14 = .ok (.iastore, 1) := by decide +kernel
theorem dX12_feels_15 : decode cX12_feels 15 = .ok (.iinc 1 1, 3) := by decide +kernel
theorem dX12_feels_18 : decode cX12_feels 18 = .ok (.goto (-16), 3) := by decide +kernel
theorem dX12_feels_21 : decode cX12_feels 21 = .ok (.aload_n 0, 1) := by decide +kernel
theorem dX12_feels_22 : decode cX12_feels 22 = .ok (.getfield 59, 3) := by decide +kernel
theorem dX12_feels_25 : decode cX12_feels 25 = .ok (.iconst 0, 1) := by decide +kernel
theorem dX12_feels_26 : decode cX12_feels 26 = .ok (.aload_n 0, 1) := by decide +kernel
theorem dX12_feels_27 : decode cX12_feels 27 = .ok (.getfield 7, 3) := by decide +kernel
theorem dX12_feels_30 : decode cX12_feels 30 = .ok (.sipush 379, 3) := by decide +kernel
theorem dX12_feels_33 : decode cX12_feels 33 = .ok (.iaload, 1) := by decide +kernel
theorem dX12_feels_34 : decode cX12_feels 34 = .ok (.iastore, 1) := by decide +kernel
theorem dX12_feels_35 : decode cX12_feels 35 = .ok (.aload_n 0, 1) := by decide +kernel
theorem dX12_feels_36 : decode cX12_feels 36 = .ok (.getfield 59, 3) := by decide +kernel
theorem dX12_feels_39 : decode cX12_feels 39 = .ok (.iconst 1, 1) := by decide +kernel
theorem dX12_feels_40 : decode cX12_feels 40 = .ok (.aload_n 0, 1) := by decide +kernel
theorem dX12_feels_41 : decode cX12_feels 41 = .ok (.getfield 7, 3) := by decide +kernel
theorem dX12_feels_44 : decode cX12_feels 44 = .ok (.sipush 379, 3) := by decide +kernel
theorem dX12_feels_47 : decode cX12_feels 47 = .ok (.iaload, 1) := by decide +kernel
theorem dX12_feels_48 : decode cX12_feels 48 = .ok (.bipush 7, 2) := by decide +kernel
theorem dX12_feels_50 : decode cX12_feels 50 = .ok (.irem, 1) := by decide +kernel
theorem dX12_feels_51 : decode cX12_feels 51 = .ok (.iastore, 1) := by decide +kernel
theorem dX12_feels_52 : decode cX12_feels 52 = .ok (.return_, 1) := by decide +kernel
set_option maxRecDepth 20000 in
set_option maxHeartbeats 4000000 in
theorem m_feels (E : xE) (l : Launch) (a : Nat → Nat) (cd : Cd) (hG : Good cd) (kf : Int32) (jn js jq : Lb) (ws : va_W) (hW : WX (okM E a cd kf jn js jq) ws) (fn : Nat → Int32) (hfn : ws[1]? = some (iA E (a 1) 382 fn)) : xV E l yX12_feels cX12_feels 2 0 0 0 [.ref (a 0)] ws (fun w => WX (okM E a cd kf jn js jq) w ∧ keeps ws w (fun q => q = 17) ∧ (fcK E a w (fl0 fn))) := by
  refine xV_start (lv := [(0, .ref (a 0))]) RX12 (by decide) rfl (Nat.le_of_ble_eq_true rfl) rfl (fun p e s m below meth c A C hr hlk hin => ?_)
  have kp0 : keeps ws ws (fun q => q = 17) := keeps_rf
  obtain ⟨_, kq1, fq, pfq, rfl⟩ := hW 1 _ rfl
  obtain rfl := iA_inj (hfn.symm.trans kq1)
  obtain ⟨_, k1, f2, rfl⟩ := hW 17 _ rfl
  refine x_iconst C (v := 0) dX12_feels_0 (by decide) rfl ?_
  refine x_istore_n C (lv' := [(1, .int 0), (0, .ref (a 0))]) dX12_feels_1 rfl (by decide) rfl rfl ?_
  have loop2 : ∀ (fu2 : Nat) (k : Nat) (wl2 : va_W), WX (okM E a cd kf jn js jq) wl2 → 11 - k < fu2 → k ≤ 11 → (∃ g : Nat → Int32, wl2[17]? = some (iA E (a 17) 11 g) ∧ ∀ j, j < k → g j = 0) → wl2[1]? = some (iA E (a 1) 382 fn) → keeps ws wl2 (fun q => q = 17) → X E p l e (xRm 0 0 0) s m ([.ref (a 0)] : List Value).toArray below meth c A 2 0 0 (MQ below (va_Qv (fun w => WX (okM E a cd kf jn js jq) w ∧ keeps ws w (fun q => q = 17) ∧ (fcK E a w (fl0 fn))) (xB E A) A) ([.ref (a 0)] : List Value).toArray s 0 0 A) wl2 2 [(0, .ref (a 0)), (1, .int (nI k))] [] := by
    intro fu2
    induction fu2 with
    | zero => intro k wl2 _ q; omega
    | succ fu2 ih2 =>
      intro k wl2 hWl2 me2 iv2_0 iv2_1 iv2_2 kq2
      obtain ⟨gf, k17, hz⟩ := iv2_1
      refine x_iload_n C dX12_feels_2 rfl 1 rfl rfl ?_
      refine x_bipush C (v := 11) dX12_feels_3 (by decide) rfl ?_
      refine x_icmp_ge C (tgt := 21) dX12_feels_5 (by decide) rfl (fun c3 => ?_) (fun c3 => ?_)
      · skip
        have nf4 := nI_le' (a := 11) (b := k) c3 (by omega) (by omega)
        refine x_aload_n C dX12_feels_21 rfl 0 rfl rfl ?_
        obtain ⟨_, k5, n6, n8, n10, v12, v13, v14, n15, n17, n19, n21, v23, v24, v25, v26, n27, n29, bn7, bn9, bn11, bn16, bn18, bn20, bn22, bn28, bn30, rfl⟩ := hWl2 0 _ rfl
        refine x_get C (ci := 11) (k := 26) 0 k5 rfl in_X12 (by decide) w_1144 rfl dX12_feels_22 rfl ?_
        refine x_iconst C (v := 0) dX12_feels_25 (by decide) rfl ?_
        refine x_aload_n C dX12_feels_26 rfl 0 rfl rfl ?_
        refine x_get C (ci := 11) (k := 0) 0 k5 rfl in_X12 (by decide) w_1118 rfl dX12_feels_27 rfl ?_
        refine x_sipush C (v := 379) dX12_feels_30 (by decide) rfl ?_
        refine x_ialk C (v := (fn 379)) 379 (by decide) (by decide) (by decide) 1 iv2_2 rfl dX12_feels_33 rfl ?_
        obtain ⟨w31, hw32⟩ : ∃ w : va_W, w = List.set wl2 17 (iA E (a 17) 11 (upd gf 0 (fn 379))) := ⟨_, rfl⟩
        refine x_iask C 0 (by decide) (by decide) (by decide) 17 k17 hw32.symm dX12_feels_34 rfl ?_
        have hW33 : WX (okM E a cd kf jn js jq) w31 := by rw [hw32]; exact hWl2.set (k := 17) rfl ⟨_, rfl⟩
        have k34 : w31[17]? = some (iA E (a 17) 11 (upd gf 0 (fn 379))) := by rw [hw32]; exact set_eq k17
        have k35 : w31[1]? = some (iA E (a 1) 382 fn) := by rw [hw32]; exact set_ne iv2_2 (by decide)
        have k36 : w31[0]? = some (ob (a 0) 11 [.ref (a 1), .ref (a 2), .ref (a 3), .ref (a 4), .int (nI n6), .int (nI n8), .int (nI n10), .int v12, .int v13, .int v14, .int (nI n15), .int (nI n17), .int (nI n19), .int (nI (cd.2.2.2.2.2)), .ref (a 5), .ref (a 6), .ref (a 7), .ref (a 8), .ref (a 9), .ref (a 10), .ref (a 11), .ref (a 12), .ref (a 13), .ref (a 14), .ref (a 15), .ref (a 16), .ref (a 17), .int (nI n21), .ref (a 18), .ref (a 19), .ref (a 20), .ref (a 21), .int v23, .int v24, .int v25, .int v26, .int (nI n27), .int (nI n29), .ref (a 22), .ref (a 23), .ref (a 24), .ref (a 25), .ref (a 26), .ref (a 27), .ref (a 28), .ref (a 29), .ref (a 30), .int kf]) := by rw [hw32]; exact set_ne k5 (by decide)
        have kp37 := keeps_set kq2 hw32 (by first | exact rfl | decide | omega | (dsimp only; omega))
        refine x_aload_n C dX12_feels_35 rfl 0 rfl rfl ?_
        refine x_get C (ci := 11) (k := 26) 0 k36 rfl in_X12 (by decide) w_1144 rfl dX12_feels_36 rfl ?_
        refine x_iconst C (v := 1) dX12_feels_39 (by decide) rfl ?_
        refine x_aload_n C dX12_feels_40 rfl 0 rfl rfl ?_
        refine x_get C (ci := 11) (k := 0) 0 k36 rfl in_X12 (by decide) w_1118 rfl dX12_feels_41 rfl ?_
        refine x_sipush C (v := 379) dX12_feels_44 (by decide) rfl ?_
        refine x_ialk C (v := (fn 379)) 379 (by decide) (by decide) (by decide) 1 k35 rfl dX12_feels_47 rfl ?_
        refine x_bipush C (v := 7) dX12_feels_48 (by decide) rfl ?_
        refine x_irem C (v := ((fn 379) - (fn 379) / (7 : Int32) * (7 : Int32))) dX12_feels_50 (by decide) rfl rfl ?_
        obtain ⟨w38, hw39⟩ : ∃ w : va_W, w = List.set w31 17 (iA E (a 17) 11 (upd (upd gf 0 (fn 379)) 1 ((fn 379) - (fn 379) / (7 : Int32) * (7 : Int32)))) := ⟨_, rfl⟩
        refine x_iask C 1 (by decide) (by decide) (by decide) 17 k34 hw39.symm dX12_feels_51 rfl ?_
        have hW40 : WX (okM E a cd kf jn js jq) w38 := by rw [hw39]; exact hW33.set (k := 17) rfl ⟨_, rfl⟩
        have k41 : w38[17]? = some (iA E (a 17) 11 (upd (upd gf 0 (fn 379)) 1 ((fn 379) - (fn 379) / (7 : Int32) * (7 : Int32)))) := by rw [hw39]; exact set_eq k34
        have k42 : w38[1]? = some (iA E (a 1) 382 fn) := by rw [hw39]; exact set_ne k35 (by decide)
        have k43 : w38[0]? = some (ob (a 0) 11 [.ref (a 1), .ref (a 2), .ref (a 3), .ref (a 4), .int (nI n6), .int (nI n8), .int (nI n10), .int v12, .int v13, .int v14, .int (nI n15), .int (nI n17), .int (nI n19), .int (nI (cd.2.2.2.2.2)), .ref (a 5), .ref (a 6), .ref (a 7), .ref (a 8), .ref (a 9), .ref (a 10), .ref (a 11), .ref (a 12), .ref (a 13), .ref (a 14), .ref (a 15), .ref (a 16), .ref (a 17), .int (nI n21), .ref (a 18), .ref (a 19), .ref (a 20), .ref (a 21), .int v23, .int v24, .int v25, .int v26, .int (nI n27), .int (nI n29), .ref (a 22), .ref (a 23), .ref (a 24), .ref (a 25), .ref (a 26), .ref (a 27), .ref (a 28), .ref (a 29), .ref (a 30), .int kf]) := by rw [hw39]; exact set_ne k36 (by decide)
        have kp44 := keeps_set kp37 hw39 (by first | exact rfl | decide | omega | (dsimp only; omega))
        exact x_vret C hr hlk dX12_feels_52 ⟨hW40, kp44, (fc_zero k41 (fun j hj => hz j (by omega)))⟩
      · skip
        have nf45 := nI_nle' (a := 11) (b := k) c3 (by omega) (by omega)
        refine x_aload_n C dX12_feels_8 rfl 0 rfl rfl ?_
        obtain ⟨_, k46, n47, n49, n51, v53, v54, v55, n56, n58, n60, n62, v64, v65, v66, v67, n68, n70, bn48, bn50, bn52, bn57, bn59, bn61, bn63, bn69, bn71, rfl⟩ := hWl2 0 _ rfl
        refine x_get C (ci := 11) (k := 26) 0 k46 rfl in_X12 (by decide) w_1144 rfl dX12_feels_9 rfl ?_
        refine x_iload_n C dX12_feels_12 rfl 1 rfl rfl ?_
        refine x_iconst C (v := 0) dX12_feels_13 (by decide) rfl ?_
        obtain ⟨w72, hw73⟩ : ∃ w : va_W, w = List.set wl2 17 (iA E (a 17) 11 (upd gf k (0 : Int32))) := ⟨_, rfl⟩
        refine x_iask C k (nI_clamp (by omega)) (nI_pos (by omega)) (by omega) 17 k17 hw73.symm dX12_feels_14 rfl ?_
        have hW74 : WX (okM E a cd kf jn js jq) w72 := by rw [hw73]; exact hWl2.set (k := 17) rfl ⟨_, rfl⟩
        have k75 : w72[17]? = some (iA E (a 17) 11 (upd gf k (0 : Int32))) := by rw [hw73]; exact set_eq k17
        have k76 : w72[1]? = some (iA E (a 1) 382 fn) := by rw [hw73]; exact set_ne iv2_2 (by decide)
        have k77 : w72[0]? = some (ob (a 0) 11 [.ref (a 1), .ref (a 2), .ref (a 3), .ref (a 4), .int (nI n47), .int (nI n49), .int (nI n51), .int v53, .int v54, .int v55, .int (nI n56), .int (nI n58), .int (nI n60), .int (nI (cd.2.2.2.2.2)), .ref (a 5), .ref (a 6), .ref (a 7), .ref (a 8), .ref (a 9), .ref (a 10), .ref (a 11), .ref (a 12), .ref (a 13), .ref (a 14), .ref (a 15), .ref (a 16), .ref (a 17), .int (nI n62), .ref (a 18), .ref (a 19), .ref (a 20), .ref (a 21), .int v64, .int v65, .int v66, .int v67, .int (nI n68), .int (nI n70), .ref (a 22), .ref (a 23), .ref (a 24), .ref (a 25), .ref (a 26), .ref (a 27), .ref (a 28), .ref (a 29), .ref (a 30), .int kf]) := by rw [hw73]; exact set_ne k46 (by decide)
        have kp78 := keeps_set kq2 hw73 (by first | exact rfl | decide | omega | (dsimp only; omega))
        refine x_iinc C (v := (nI (k + 1))) (lv' := [(1, .int (nI (k + 1))), (0, .ref (a 0))]) dX12_feels_15 1 rfl (nI_add k 1) (by decide) rfl rfl ?_
        refine x_goto C (tgt := 2) dX12_feels_18 (by decide) ?_
        refine x_lv (lv1 := [(0, .ref (a 0)), (1, .int (nI (k + 1)))]) [1, 0] rfl ?_
        exact ih2 (k + 1) w72 hW74 (by omega) (by omega) ⟨_, k75, zf_step hz⟩ k76 kp78
  refine x_lv (lv1 := [(0, .ref (a 0)), (1, .int 0)]) [1, 0] rfl ?_
  exact loop2 _ 0 ws hW (Nat.lt_succ_self _) (by omega) ⟨_, k1, fun j hj => absurd hj (by omega)⟩ hfn kp0
theorem dX12_feelsHen_0 : decode cX12_feelsHen 0 = .ok (.aload_n 0, 1) := by decide +kernel
theorem dX12_feelsHen_1 : decode cX12_feelsHen 1 = .ok (.invokevirtual 234, 3) := by decide +kernel
theorem dX12_feelsHen_4 : decode cX12_feelsHen 4 = .ok (.aload_n 0, 1) := by decide +kernel
theorem dX12_feelsHen_5 : decode cX12_feelsHen 5 = .ok (.getfield 59, 3) := by decide +kernel
theorem dX12_feelsHen_8 : decode cX12_feelsHen 8 = .ok (.iconst 2, 1) := by decide +kernel
theorem dX12_feelsHen_9 : decode cX12_feelsHen 9 = .ok (.iload_n 1, 1) := by decide +kernel
theorem dX12_feelsHen_10 : decode cX12_feelsHen 10 = .ok (.iastore, 1) := by decide +kernel
theorem dX12_feelsHen_11 : decode cX12_feelsHen 11 = .ok (.aload_n 0, 1) := by decide +kernel
theorem dX12_feelsHen_12 : decode cX12_feelsHen 12 = .ok (.getfield 59, 3) := by decide +kernel
theorem dX12_feelsHen_15 : decode cX12_feelsHen 15 = .ok (.iconst 3, 1) := by decide +kernel
theorem dX12_feelsHen_16 : decode cX12_feelsHen 16 = .ok (.aload_n 0, 1) := by decide +kernel
theorem dX12_feelsHen_17 : decode cX12_feelsHen 17 = .ok (.getfield 7, 3) := by decide +kernel
theorem dX12_feelsHen_20 : decode cX12_feelsHen 20 = .ok (.sipush 321, 3) := by decide +kernel
theorem dX12_feelsHen_23 : decode cX12_feelsHen 23 = .ok (.iload_n 1, 1) := by decide +kernel
theorem dX12_feelsHen_24 : decode cX12_feelsHen 24 = .ok (.iadd, 1) := by decide +kernel
theorem dX12_feelsHen_25 : decode cX12_feelsHen 25 = .ok (.iaload, 1) := by decide +kernel
theorem dX12_feelsHen_26 : decode cX12_feelsHen 26 = .ok (.iastore, 1) := by decide +kernel
theorem dX12_feelsHen_27 : decode cX12_feelsHen 27 = .ok (.aload_n 0, 1) := by decide +kernel
theorem dX12_feelsHen_28 : decode cX12_feelsHen 28 = .ok (.getfield 59, 3) := by decide +kernel
theorem dX12_feelsHen_31 : decode cX12_feelsHen 31 = .ok (.iconst 4, 1) := by decide +kernel
theorem dX12_feelsHen_32 : decode cX12_feelsHen 32 = .ok (.iload_n 2, 1) := by decide +kernel
theorem dX12_feelsHen_33 : decode cX12_feelsHen 33 = .ok (.iastore, 1) := by decide +kernel
theorem dX12_feelsHen_34 : decode cX12_feelsHen 34 = .ok (.aload_n 0, 1) := by decide +kernel
theorem dX12_feelsHen_35 : decode cX12_feelsHen 35 = .ok (.getfield 59, 3) := by decide +kernel
theorem dX12_feelsHen_38 : decode cX12_feelsHen 38 = .ok (.bipush 8, 2) := by decide +kernel
theorem dX12_feelsHen_40 : decode cX12_feelsHen 40 = .ok (.aload_n 0, 1) := by decide +kernel
theorem dX12_feelsHen_41 : decode cX12_feelsHen 41 = .ok (.getfield 7, 3) := by decide +kernel
theorem dX12_feelsHen_44 : decode cX12_feelsHen 44 = .ok (.sipush 329, 3) := by decide +kernel
theorem dX12_feelsHen_47 : decode cX12_feelsHen 47 = .ok (.iload_n 1, 1) := by decide +kernel
theorem dX12_feelsHen_48 : decode cX12_feelsHen 48 = .ok (.iadd, 1) := by decide +kernel
theorem dX12_feelsHen_49 : decode cX12_feelsHen 49 = .ok (.iaload, 1) := by decide +kernel
theorem dX12_feelsHen_50 : decode cX12_feelsHen 50 = .ok (.iastore, 1) := by decide +kernel
theorem dX12_feelsHen_51 : decode cX12_feelsHen 51 = .ok (.return_, 1) := by decide +kernel
set_option maxRecDepth 20000 in
set_option maxHeartbeats 4000000 in
theorem m_feelsHen (E : xE) (l : Launch) (a : Nat → Nat) (cd : Cd) (hG : Good cd) (kf : Int32) (jn js jq : Lb) (ws : va_W) (hW : WX (okM E a cd kf jn js jq) ws) (y0 : Nat) (d0 : Int32) (hy0 : y0 ≤ 7) (fn : Nat → Int32) (hfn : ws[1]? = some (iA E (a 1) 382 fn)) : xV E l yX12_feelsHen cX12_feelsHen 3 1 0 0 [.ref (a 0), .int (nI y0), .int d0] ws (fun w => WX (okM E a cd kf jn js jq) w ∧ keeps ws w (fun q => q = 17) ∧ (fcK E a w (flH fn (nI y0) d0 y0))) := by
  refine xV_start (lv := [(0, .ref (a 0)), (1, .int (nI y0)), (2, .int d0)]) RX12 (by decide) rfl (Nat.le_of_ble_eq_true rfl) rfl (fun p e s m below meth c A C hr hlk hin => ?_)
  have kp0 : keeps ws ws (fun q => q = 17) := keeps_rf
  obtain ⟨_, kq1, fq, pfq, rfl⟩ := hW 1 _ rfl
  obtain rfl := iA_inj (hfn.symm.trans kq1)
  refine x_aload_n C dX12_feelsHen_0 rfl 0 rfl rfl ?_
  obtain ⟨_, k1, n2, n4, n6, v8, v9, v10, n11, n13, n15, n17, v19, v20, v21, v22, n23, n25, bn3, bn5, bn7, bn12, bn14, bn16, bn18, bn24, bn26, rfl⟩ := hW 0 _ rfl
  refine x_vv C (As := []) (rest := []) (m_feels E l a cd hG kf jn js jq ws hW fn hfn) mf_X12_feels w_1459 0 k1 rfl rfl rfl (Nat.le_of_ble_eq_true rfl) ⟨(Nat.le_of_ble_eq_true rfl), (Nat.le_of_ble_eq_true rfl)⟩ ⟨(Nat.le_of_ble_eq_true rfl), (Nat.le_of_ble_eq_true rfl)⟩ dX12_feelsHen_1 rfl (fun w29 h27 => ?_)
  obtain ⟨hW30, kq31, x32⟩ := h27
  have k33 : w29[1]? = some (iA E (a 1) 382 fn) := keeps_at kq31 hfn (by first | decide | omega | (dsimp only; omega))
  have k34 : w29[0]? = some (ob (a 0) 11 [.ref (a 1), .ref (a 2), .ref (a 3), .ref (a 4), .int (nI n2), .int (nI n4), .int (nI n6), .int v8, .int v9, .int v10, .int (nI n11), .int (nI n13), .int (nI n15), .int (nI (cd.2.2.2.2.2)), .ref (a 5), .ref (a 6), .ref (a 7), .ref (a 8), .ref (a 9), .ref (a 10), .ref (a 11), .ref (a 12), .ref (a 13), .ref (a 14), .ref (a 15), .ref (a 16), .ref (a 17), .int (nI n17), .ref (a 18), .ref (a 19), .ref (a 20), .ref (a 21), .int v19, .int v20, .int v21, .int v22, .int (nI n23), .int (nI n25), .ref (a 22), .ref (a 23), .ref (a 24), .ref (a 25), .ref (a 26), .ref (a 27), .ref (a 28), .ref (a 29), .ref (a 30), .int kf]) := keeps_at kq31 k1 (by first | decide | omega | (dsimp only; omega))
  have kp35 := keeps_tr kp0 kq31 (fun q hq => by first | omega | (dsimp only at *; omega))
  obtain ⟨g36, k37, ecl38⟩ := x32
  refine x_aload_n C dX12_feelsHen_4 rfl 0 rfl rfl ?_
  refine x_get C (ci := 11) (k := 26) 0 k34 rfl in_X12 (by decide) w_1144 rfl dX12_feelsHen_5 rfl ?_
  refine x_iconst C (v := 2) dX12_feelsHen_8 (by decide) rfl ?_
  refine x_iload_n C dX12_feelsHen_9 rfl 1 rfl rfl ?_
  obtain ⟨w39, hw40⟩ : ∃ w : va_W, w = List.set w29 17 (iA E (a 17) 11 (upd g36 2 (nI y0))) := ⟨_, rfl⟩
  refine x_iask C 2 (by decide) (by decide) (by decide) 17 k37 hw40.symm dX12_feelsHen_10 rfl ?_
  have hW41 : WX (okM E a cd kf jn js jq) w39 := by rw [hw40]; exact hW30.set (k := 17) rfl ⟨_, rfl⟩
  have k42 : w39[1]? = some (iA E (a 1) 382 fn) := by rw [hw40]; exact set_ne k33 (by decide)
  have k43 : w39[0]? = some (ob (a 0) 11 [.ref (a 1), .ref (a 2), .ref (a 3), .ref (a 4), .int (nI n2), .int (nI n4), .int (nI n6), .int v8, .int v9, .int v10, .int (nI n11), .int (nI n13), .int (nI n15), .int (nI (cd.2.2.2.2.2)), .ref (a 5), .ref (a 6), .ref (a 7), .ref (a 8), .ref (a 9), .ref (a 10), .ref (a 11), .ref (a 12), .ref (a 13), .ref (a 14), .ref (a 15), .ref (a 16), .ref (a 17), .int (nI n17), .ref (a 18), .ref (a 19), .ref (a 20), .ref (a 21), .int v19, .int v20, .int v21, .int v22, .int (nI n23), .int (nI n25), .ref (a 22), .ref (a 23), .ref (a 24), .ref (a 25), .ref (a 26), .ref (a 27), .ref (a 28), .ref (a 29), .ref (a 30), .int kf]) := by rw [hw40]; exact set_ne k34 (by decide)
  have k44 : w39[17]? = some (iA E (a 17) 11 (upd g36 2 (nI y0))) := by rw [hw40]; exact set_eq k37
  have kp45 := keeps_set kp35 hw40 (by first | exact rfl | decide | omega | (dsimp only; omega))
  refine x_aload_n C dX12_feelsHen_11 rfl 0 rfl rfl ?_
  refine x_get C (ci := 11) (k := 26) 0 k43 rfl in_X12 (by decide) w_1144 rfl dX12_feelsHen_12 rfl ?_
  refine x_iconst C (v := 3) dX12_feelsHen_15 (by decide) rfl ?_
  refine x_aload_n C dX12_feelsHen_16 rfl 0 rfl rfl ?_
  refine x_get C (ci := 11) (k := 0) 0 k43 rfl in_X12 (by decide) w_1118 rfl dX12_feelsHen_17 rfl ?_
  refine x_sipush C (v := 321) dX12_feelsHen_20 (by decide) rfl ?_
  refine x_iload_n C dX12_feelsHen_23 rfl 1 rfl rfl ?_
  refine x_iadd C (v := (nI (321 + y0))) dX12_feelsHen_24 (nI_add 321 y0) rfl ?_
  refine x_ialk C (v := (fn (321 + y0))) (321 + y0) (nI_clamp (by omega)) (nI_pos (by omega)) (by omega) 1 k42 rfl dX12_feelsHen_25 rfl ?_
  obtain ⟨w46, hw47⟩ : ∃ w : va_W, w = List.set w39 17 (iA E (a 17) 11 (upd (upd g36 2 (nI y0)) 3 (fn (321 + y0)))) := ⟨_, rfl⟩
  refine x_iask C 3 (by decide) (by decide) (by decide) 17 k44 hw47.symm dX12_feelsHen_26 rfl ?_
  have hW48 : WX (okM E a cd kf jn js jq) w46 := by rw [hw47]; exact hW41.set (k := 17) rfl ⟨_, rfl⟩
  have k49 : w46[1]? = some (iA E (a 1) 382 fn) := by rw [hw47]; exact set_ne k42 (by decide)
  have k50 : w46[0]? = some (ob (a 0) 11 [.ref (a 1), .ref (a 2), .ref (a 3), .ref (a 4), .int (nI n2), .int (nI n4), .int (nI n6), .int v8, .int v9, .int v10, .int (nI n11), .int (nI n13), .int (nI n15), .int (nI (cd.2.2.2.2.2)), .ref (a 5), .ref (a 6), .ref (a 7), .ref (a 8), .ref (a 9), .ref (a 10), .ref (a 11), .ref (a 12), .ref (a 13), .ref (a 14), .ref (a 15), .ref (a 16), .ref (a 17), .int (nI n17), .ref (a 18), .ref (a 19), .ref (a 20), .ref (a 21), .int v19, .int v20, .int v21, .int v22, .int (nI n23), .int (nI n25), .ref (a 22), .ref (a 23), .ref (a 24), .ref (a 25), .ref (a 26), .ref (a 27), .ref (a 28), .ref (a 29), .ref (a 30), .int kf]) := by rw [hw47]; exact set_ne k43 (by decide)
  have k51 : w46[17]? = some (iA E (a 17) 11 (upd (upd g36 2 (nI y0)) 3 (fn (321 + y0)))) := by rw [hw47]; exact set_eq k44
  have kp52 := keeps_set kp45 hw47 (by first | exact rfl | decide | omega | (dsimp only; omega))
  refine x_aload_n C dX12_feelsHen_27 rfl 0 rfl rfl ?_
  refine x_get C (ci := 11) (k := 26) 0 k50 rfl in_X12 (by decide) w_1144 rfl dX12_feelsHen_28 rfl ?_
  refine x_iconst C (v := 4) dX12_feelsHen_31 (by decide) rfl ?_
  refine x_iload_n C dX12_feelsHen_32 rfl 2 rfl rfl ?_
  obtain ⟨w53, hw54⟩ : ∃ w : va_W, w = List.set w46 17 (iA E (a 17) 11 (upd (upd (upd g36 2 (nI y0)) 3 (fn (321 + y0))) 4 d0)) := ⟨_, rfl⟩
  refine x_iask C 4 (by decide) (by decide) (by decide) 17 k51 hw54.symm dX12_feelsHen_33 rfl ?_
  have hW55 : WX (okM E a cd kf jn js jq) w53 := by rw [hw54]; exact hW48.set (k := 17) rfl ⟨_, rfl⟩
  have k56 : w53[1]? = some (iA E (a 1) 382 fn) := by rw [hw54]; exact set_ne k49 (by decide)
  have k57 : w53[0]? = some (ob (a 0) 11 [.ref (a 1), .ref (a 2), .ref (a 3), .ref (a 4), .int (nI n2), .int (nI n4), .int (nI n6), .int v8, .int v9, .int v10, .int (nI n11), .int (nI n13), .int (nI n15), .int (nI (cd.2.2.2.2.2)), .ref (a 5), .ref (a 6), .ref (a 7), .ref (a 8), .ref (a 9), .ref (a 10), .ref (a 11), .ref (a 12), .ref (a 13), .ref (a 14), .ref (a 15), .ref (a 16), .ref (a 17), .int (nI n17), .ref (a 18), .ref (a 19), .ref (a 20), .ref (a 21), .int v19, .int v20, .int v21, .int v22, .int (nI n23), .int (nI n25), .ref (a 22), .ref (a 23), .ref (a 24), .ref (a 25), .ref (a 26), .ref (a 27), .ref (a 28), .ref (a 29), .ref (a 30), .int kf]) := by rw [hw54]; exact set_ne k50 (by decide)
  have k58 : w53[17]? = some (iA E (a 17) 11 (upd (upd (upd g36 2 (nI y0)) 3 (fn (321 + y0))) 4 d0)) := by rw [hw54]; exact set_eq k51
  have kp59 := keeps_set kp52 hw54 (by first | exact rfl | decide | omega | (dsimp only; omega))
  refine x_aload_n C dX12_feelsHen_34 rfl 0 rfl rfl ?_
  refine x_get C (ci := 11) (k := 26) 0 k57 rfl in_X12 (by decide) w_1144 rfl dX12_feelsHen_35 rfl ?_
  refine x_bipush C (v := 8) dX12_feelsHen_38 (by decide) rfl ?_
  refine x_aload_n C dX12_feelsHen_40 rfl 0 rfl rfl ?_
  refine x_get C (ci := 11) (k := 0) 0 k57 rfl in_X12 (by decide) w_1118 rfl dX12_feelsHen_41 rfl ?_
  refine x_sipush C (v := 329) dX12_feelsHen_44 (by decide) rfl ?_
  refine x_iload_n C dX12_feelsHen_47 rfl 1 rfl rfl ?_
  refine x_iadd C (v := (nI (329 + y0))) dX12_feelsHen_48 (nI_add 329 y0) rfl ?_
  refine x_ialk C (v := (fn (329 + y0))) (329 + y0) (nI_clamp (by omega)) (nI_pos (by omega)) (by omega) 1 k56 rfl dX12_feelsHen_49 rfl ?_
  obtain ⟨w60, hw61⟩ : ∃ w : va_W, w = List.set w53 17 (iA E (a 17) 11 (upd (upd (upd (upd g36 2 (nI y0)) 3 (fn (321 + y0))) 4 d0) 8 (fn (329 + y0)))) := ⟨_, rfl⟩
  refine x_iask C 8 (by decide) (by decide) (by decide) 17 k58 hw61.symm dX12_feelsHen_50 rfl ?_
  have hW62 : WX (okM E a cd kf jn js jq) w60 := by rw [hw61]; exact hW55.set (k := 17) rfl ⟨_, rfl⟩
  have k63 : w60[1]? = some (iA E (a 1) 382 fn) := by rw [hw61]; exact set_ne k56 (by decide)
  have k64 : w60[0]? = some (ob (a 0) 11 [.ref (a 1), .ref (a 2), .ref (a 3), .ref (a 4), .int (nI n2), .int (nI n4), .int (nI n6), .int v8, .int v9, .int v10, .int (nI n11), .int (nI n13), .int (nI n15), .int (nI (cd.2.2.2.2.2)), .ref (a 5), .ref (a 6), .ref (a 7), .ref (a 8), .ref (a 9), .ref (a 10), .ref (a 11), .ref (a 12), .ref (a 13), .ref (a 14), .ref (a 15), .ref (a 16), .ref (a 17), .int (nI n17), .ref (a 18), .ref (a 19), .ref (a 20), .ref (a 21), .int v19, .int v20, .int v21, .int v22, .int (nI n23), .int (nI n25), .ref (a 22), .ref (a 23), .ref (a 24), .ref (a 25), .ref (a 26), .ref (a 27), .ref (a 28), .ref (a 29), .ref (a 30), .int kf]) := by rw [hw61]; exact set_ne k57 (by decide)
  have k65 : w60[17]? = some (iA E (a 17) 11 (upd (upd (upd (upd g36 2 (nI y0)) 3 (fn (321 + y0))) 4 d0) 8 (fn (329 + y0)))) := by rw [hw61]; exact set_eq k58
  have kp66 := keeps_set kp59 hw61 (by first | exact rfl | decide | omega | (dsimp only; omega))
  exact x_vret C hr hlk dX12_feelsHen_51 ⟨hW62, kp66, (⟨_, k65, clip_upd (clip_upd (clip_upd (clip_upd (ecl38))))⟩)⟩
theorem dX12_feelsEgg_0 : decode cX12_feelsEgg 0 = .ok (.aload_n 0, 1) := by decide +kernel
theorem dX12_feelsEgg_1 : decode cX12_feelsEgg 1 = .ok (.invokevirtual 234, 3) := by decide +kernel
theorem dX12_feelsEgg_4 : decode cX12_feelsEgg 4 = .ok (.aload_n 0, 1) := by decide +kernel
theorem dX12_feelsEgg_5 : decode cX12_feelsEgg 5 = .ok (.getfield 59, 3) := by decide +kernel
theorem dX12_feelsEgg_8 : decode cX12_feelsEgg 8 = .ok (.iconst 2, 1) := by decide +kernel
theorem dX12_feelsEgg_9 : decode cX12_feelsEgg 9 = .ok (.aload_n 0, 1) := by decide +kernel
theorem dX12_feelsEgg_10 : decode cX12_feelsEgg 10 = .ok (.getfield 7, 3) := by decide +kernel
theorem dX12_feelsEgg_13 : decode cX12_feelsEgg 13 = .ok (.bipush 96, 2) := by decide +kernel
theorem dX12_feelsEgg_15 : decode cX12_feelsEgg 15 = .ok (.iload_n 1, 1) := by decide +kernel
theorem dX12_feelsEgg_16 : decode cX12_feelsEgg 16 = .ok (.iadd, 1) := by decide +kernel
theorem dX12_feelsEgg_17 : decode cX12_feelsEgg 17 = .ok (.iaload, 1) := by decide +kernel
theorem dX12_feelsEgg_18 : decode cX12_feelsEgg 18 = .ok (.iastore, 1) := by decide +kernel
theorem dX12_feelsEgg_19 : decode cX12_feelsEgg 19 = .ok (.aload_n 0, 1) := by decide +kernel
theorem dX12_feelsEgg_20 : decode cX12_feelsEgg 20 = .ok (.getfield 59, 3) := by decide +kernel
theorem dX12_feelsEgg_23 : decode cX12_feelsEgg 23 = .ok (.iconst 3, 1) := by decide +kernel
theorem dX12_feelsEgg_24 : decode cX12_feelsEgg 24 = .ok (.aload_n 0, 1) := by decide +kernel
theorem dX12_feelsEgg_25 : decode cX12_feelsEgg 25 = .ok (.getfield 7, 3) := by decide +kernel
theorem dX12_feelsEgg_28 : decode cX12_feelsEgg 28 = .ok (.sipush 321, 3) := by decide +kernel
theorem dX12_feelsEgg_31 : decode cX12_feelsEgg 31 = .ok (.aload_n 0, 1) := by decide +kernel
theorem dX12_feelsEgg_32 : decode cX12_feelsEgg 32 = .ok (.getfield 7, 3) := by decide +kernel
theorem dX12_feelsEgg_35 : decode cX12_feelsEgg 35 = .ok (.bipush 96, 2) := by decide +kernel
theorem dX12_feelsEgg_37 : decode cX12_feelsEgg 37 = .ok (.iload_n 1, 1) := by decide +kernel
theorem dX12_feelsEgg_38 : decode cX12_feelsEgg 38 = .ok (.iadd, 1) := by decide +kernel
theorem dX12_feelsEgg_39 : decode cX12_feelsEgg 39 = .ok (.iaload, 1) := by decide +kernel
theorem dX12_feelsEgg_40 : decode cX12_feelsEgg 40 = .ok (.iadd, 1) := by decide +kernel
theorem dX12_feelsEgg_41 : decode cX12_feelsEgg 41 = .ok (.iaload, 1) := by decide +kernel
theorem dX12_feelsEgg_42 : decode cX12_feelsEgg 42 = .ok (.iastore, 1) := by decide +kernel
theorem dX12_feelsEgg_43 : decode cX12_feelsEgg 43 = .ok (.aload_n 0, 1) := by decide +kernel
theorem dX12_feelsEgg_44 : decode cX12_feelsEgg 44 = .ok (.getfield 59, 3) := by decide +kernel
theorem dX12_feelsEgg_47 : decode cX12_feelsEgg 47 = .ok (.iconst 5, 1) := by decide +kernel
theorem dX12_feelsEgg_48 : decode cX12_feelsEgg 48 = .ok (.aload_n 0, 1) := by decide +kernel
theorem dX12_feelsEgg_49 : decode cX12_feelsEgg 49 = .ok (.getfield 7, 3) := by decide +kernel
theorem dX12_feelsEgg_52 : decode cX12_feelsEgg 52 = .ok (.iconst 0, 1) := by decide +kernel
theorem dX12_feelsEgg_53 : decode cX12_feelsEgg 53 = .ok (.iload_n 1, 1) := by decide +kernel
theorem dX12_feelsEgg_54 : decode cX12_feelsEgg 54 = .ok (.iadd, 1) := by decide +kernel
theorem dX12_feelsEgg_55 : decode cX12_feelsEgg 55 = .ok (.iaload, 1) := by decide +kernel
theorem dX12_feelsEgg_56 : decode cX12_feelsEgg 56 = .ok (.iastore, 1) := by decide +kernel
theorem dX12_feelsEgg_57 : decode cX12_feelsEgg 57 = .ok (.aload_n 0, 1) := by decide +kernel
theorem dX12_feelsEgg_58 : decode cX12_feelsEgg 58 = .ok (.getfield 59, 3) := by decide +kernel
theorem dX12_feelsEgg_61 : decode cX12_feelsEgg 61 = .ok (.bipush 6, 2) := by decide +kernel
theorem dX12_feelsEgg_63 : decode cX12_feelsEgg 63 = .ok (.aload_n 0, 1) := by decide +kernel
theorem dX12_feelsEgg_64 : decode cX12_feelsEgg 64 = .ok (.getfield 7, 3) := by decide +kernel
theorem dX12_feelsEgg_67 : decode cX12_feelsEgg 67 = .ok (.sipush 379, 3) := by decide +kernel
theorem dX12_feelsEgg_70 : decode cX12_feelsEgg 70 = .ok (.iaload, 1) := by decide +kernel
theorem dX12_feelsEgg_71 : decode cX12_feelsEgg 71 = .ok (.aload_n 0, 1) := by decide +kernel
theorem dX12_feelsEgg_72 : decode cX12_feelsEgg 72 = .ok (.getfield 7, 3) := by decide +kernel
theorem dX12_feelsEgg_75 : decode cX12_feelsEgg 75 = .ok (.bipush 48, 2) := by decide +kernel
theorem dX12_feelsEgg_77 : decode cX12_feelsEgg 77 = .ok (.iload_n 1, 1) := by decide +kernel
theorem dX12_feelsEgg_78 : decode cX12_feelsEgg 78 = .ok (.iadd, 1) := by decide +kernel
theorem dX12_feelsEgg_79 : decode cX12_feelsEgg 79 = .ok (.iaload, 1) := by decide +kernel
theorem dX12_feelsEgg_80 : decode cX12_feelsEgg 80 = .ok (.isub, 1) := by decide +kernel
theorem dX12_feelsEgg_81 : decode cX12_feelsEgg 81 = .ok (.iastore, 1) := by decide +kernel
theorem dX12_feelsEgg_82 : decode cX12_feelsEgg 82 = .ok (.aload_n 0, 1) := by decide +kernel
theorem dX12_feelsEgg_83 : decode cX12_feelsEgg 83 = .ok (.getfield 59, 3) := by decide +kernel
theorem dX12_feelsEgg_86 : decode cX12_feelsEgg 86 = .ok (.bipush 7, 2) := by decide +kernel
theorem dX12_feelsEgg_88 : decode cX12_feelsEgg 88 = .ok (.aload_n 0, 1) := by decide +kernel
theorem dX12_feelsEgg_89 : decode cX12_feelsEgg 89 = .ok (.getfield 7, 3) := by decide +kernel
theorem dX12_feelsEgg_92 : decode cX12_feelsEgg 92 = .ok (.sipush 192, 3) := by decide +kernel
theorem dX12_feelsEgg_95 : decode cX12_feelsEgg 95 = .ok (.iload_n 1, 1) := by decide +kernel
theorem dX12_feelsEgg_96 : decode cX12_feelsEgg 96 = .ok (.iadd, 1) := by decide +kernel
theorem dX12_feelsEgg_97 : decode cX12_feelsEgg 97 = .ok (.iaload, 1) := by decide +kernel
theorem dX12_feelsEgg_98 : decode cX12_feelsEgg 98 = .ok (.iastore, 1) := by decide +kernel
theorem dX12_feelsEgg_99 : decode cX12_feelsEgg 99 = .ok (.aload_n 0, 1) := by decide +kernel
theorem dX12_feelsEgg_100 : decode cX12_feelsEgg 100 = .ok (.getfield 59, 3) := by decide +kernel
theorem dX12_feelsEgg_103 : decode cX12_feelsEgg 103 = .ok (.bipush 8, 2) := by decide +kernel
theorem dX12_feelsEgg_105 : decode cX12_feelsEgg 105 = .ok (.aload_n 0, 1) := by decide +kernel
theorem dX12_feelsEgg_106 : decode cX12_feelsEgg 106 = .ok (.getfield 7, 3) := by decide +kernel
theorem dX12_feelsEgg_109 : decode cX12_feelsEgg 109 = .ok (.sipush 144, 3) := by decide +kernel
theorem dX12_feelsEgg_112 : decode cX12_feelsEgg 112 = .ok (.iload_n 1, 1) := by decide +kernel
theorem dX12_feelsEgg_113 : decode cX12_feelsEgg 113 = .ok (.iadd, 1) := by decide +kernel
theorem dX12_feelsEgg_114 : decode cX12_feelsEgg 114 = .ok (.iaload, 1) := by decide +kernel
theorem dX12_feelsEgg_115 : decode cX12_feelsEgg 115 = .ok (.iastore, 1) := by decide +kernel
theorem dX12_feelsEgg_116 : decode cX12_feelsEgg 116 = .ok (.return_, 1) := by decide +kernel
set_option maxRecDepth 20000 in
set_option maxHeartbeats 4000000 in
theorem m_feelsEgg (E : xE) (l : Launch) (a : Nat → Nat) (cd : Cd) (hG : Good cd) (kf : Int32) (jn js jq : Lb) (ws : va_W) (hW : WX (okM E a cd kf jn js jq) ws) (i0 : Nat) (hi0 : i0 ≤ 47) (fn : Nat → Int32) (hfn : ws[1]? = some (iA E (a 1) 382 fn)) : xV E l yX12_feelsEgg cX12_feelsEgg 2 1 0 0 [.ref (a 0), .int (nI i0)] ws (fun w => WX (okM E a cd kf jn js jq) w ∧ keeps ws w (fun q => q = 17) ∧ (fcK E a w (flE fn i0))) := by
  refine xV_start (lv := [(0, .ref (a 0)), (1, .int (nI i0))]) RX12 (by decide) rfl (Nat.le_of_ble_eq_true rfl) rfl (fun p e s m below meth c A C hr hlk hin => ?_)
  have kp0 : keeps ws ws (fun q => q = 17) := keeps_rf
  obtain ⟨_, kq1, fq, pfq, rfl⟩ := hW 1 _ rfl
  obtain rfl := iA_inj (hfn.symm.trans kq1)
  refine x_aload_n C dX12_feelsEgg_0 rfl 0 rfl rfl ?_
  obtain ⟨_, k1, n2, n4, n6, v8, v9, v10, n11, n13, n15, n17, v19, v20, v21, v22, n23, n25, bn3, bn5, bn7, bn12, bn14, bn16, bn18, bn24, bn26, rfl⟩ := hW 0 _ rfl
  refine x_vv C (As := []) (rest := []) (m_feels E l a cd hG kf jn js jq ws hW fn hfn) mf_X12_feels w_1459 0 k1 rfl rfl rfl (Nat.le_of_ble_eq_true rfl) ⟨(Nat.le_of_ble_eq_true rfl), (Nat.le_of_ble_eq_true rfl)⟩ ⟨(Nat.le_of_ble_eq_true rfl), (Nat.le_of_ble_eq_true rfl)⟩ dX12_feelsEgg_1 rfl (fun w29 h27 => ?_)
  obtain ⟨hW30, kq31, x32⟩ := h27
  have k33 : w29[1]? = some (iA E (a 1) 382 fn) := keeps_at kq31 hfn (by first | decide | omega | (dsimp only; omega))
  have k34 : w29[0]? = some (ob (a 0) 11 [.ref (a 1), .ref (a 2), .ref (a 3), .ref (a 4), .int (nI n2), .int (nI n4), .int (nI n6), .int v8, .int v9, .int v10, .int (nI n11), .int (nI n13), .int (nI n15), .int (nI (cd.2.2.2.2.2)), .ref (a 5), .ref (a 6), .ref (a 7), .ref (a 8), .ref (a 9), .ref (a 10), .ref (a 11), .ref (a 12), .ref (a 13), .ref (a 14), .ref (a 15), .ref (a 16), .ref (a 17), .int (nI n17), .ref (a 18), .ref (a 19), .ref (a 20), .ref (a 21), .int v19, .int v20, .int v21, .int v22, .int (nI n23), .int (nI n25), .ref (a 22), .ref (a 23), .ref (a 24), .ref (a 25), .ref (a 26), .ref (a 27), .ref (a 28), .ref (a 29), .ref (a 30), .int kf]) := keeps_at kq31 k1 (by first | decide | omega | (dsimp only; omega))
  have kp35 := keeps_tr kp0 kq31 (fun q hq => by first | omega | (dsimp only at *; omega))
  obtain ⟨g36, k37, ecl38⟩ := x32
  refine x_aload_n C dX12_feelsEgg_4 rfl 0 rfl rfl ?_
  refine x_get C (ci := 11) (k := 26) 0 k34 rfl in_X12 (by decide) w_1144 rfl dX12_feelsEgg_5 rfl ?_
  refine x_iconst C (v := 2) dX12_feelsEgg_8 (by decide) rfl ?_
  refine x_aload_n C dX12_feelsEgg_9 rfl 0 rfl rfl ?_
  refine x_get C (ci := 11) (k := 0) 0 k34 rfl in_X12 (by decide) w_1118 rfl dX12_feelsEgg_10 rfl ?_
  refine x_bipush C (v := 96) dX12_feelsEgg_13 (by decide) rfl ?_
  refine x_iload_n C dX12_feelsEgg_15 rfl 1 rfl rfl ?_
  refine x_iadd C (v := (nI (96 + i0))) dX12_feelsEgg_16 (nI_add 96 i0) rfl ?_
  refine x_ialk C (v := (fn (96 + i0))) (96 + i0) (nI_clamp (by omega)) (nI_pos (by omega)) (by omega) 1 k33 rfl dX12_feelsEgg_17 rfl ?_
  obtain ⟨w39, hw40⟩ : ∃ w : va_W, w = List.set w29 17 (iA E (a 17) 11 (upd g36 2 (fn (96 + i0)))) := ⟨_, rfl⟩
  refine x_iask C 2 (by decide) (by decide) (by decide) 17 k37 hw40.symm dX12_feelsEgg_18 rfl ?_
  have hW41 : WX (okM E a cd kf jn js jq) w39 := by rw [hw40]; exact hW30.set (k := 17) rfl ⟨_, rfl⟩
  have k42 : w39[1]? = some (iA E (a 1) 382 fn) := by rw [hw40]; exact set_ne k33 (by decide)
  have k43 : w39[0]? = some (ob (a 0) 11 [.ref (a 1), .ref (a 2), .ref (a 3), .ref (a 4), .int (nI n2), .int (nI n4), .int (nI n6), .int v8, .int v9, .int v10, .int (nI n11), .int (nI n13), .int (nI n15), .int (nI (cd.2.2.2.2.2)), .ref (a 5), .ref (a 6), .ref (a 7), .ref (a 8), .ref (a 9), .ref (a 10), .ref (a 11), .ref (a 12), .ref (a 13), .ref (a 14), .ref (a 15), .ref (a 16), .ref (a 17), .int (nI n17), .ref (a 18), .ref (a 19), .ref (a 20), .ref (a 21), .int v19, .int v20, .int v21, .int v22, .int (nI n23), .int (nI n25), .ref (a 22), .ref (a 23), .ref (a 24), .ref (a 25), .ref (a 26), .ref (a 27), .ref (a 28), .ref (a 29), .ref (a 30), .int kf]) := by rw [hw40]; exact set_ne k34 (by decide)
  have k44 : w39[17]? = some (iA E (a 17) 11 (upd g36 2 (fn (96 + i0)))) := by rw [hw40]; exact set_eq k37
  have kp45 := keeps_set kp35 hw40 (by first | exact rfl | decide | omega | (dsimp only; omega))
  refine x_aload_n C dX12_feelsEgg_19 rfl 0 rfl rfl ?_
  refine x_get C (ci := 11) (k := 26) 0 k43 rfl in_X12 (by decide) w_1144 rfl dX12_feelsEgg_20 rfl ?_
  refine x_iconst C (v := 3) dX12_feelsEgg_23 (by decide) rfl ?_
  refine x_aload_n C dX12_feelsEgg_24 rfl 0 rfl rfl ?_
  refine x_get C (ci := 11) (k := 0) 0 k43 rfl in_X12 (by decide) w_1118 rfl dX12_feelsEgg_25 rfl ?_
  refine x_sipush C (v := 321) dX12_feelsEgg_28 (by decide) rfl ?_
  refine x_aload_n C dX12_feelsEgg_31 rfl 0 rfl rfl ?_
  refine x_get C (ci := 11) (k := 0) 0 k43 rfl in_X12 (by decide) w_1118 rfl dX12_feelsEgg_32 rfl ?_
  refine x_bipush C (v := 96) dX12_feelsEgg_35 (by decide) rfl ?_
  refine x_iload_n C dX12_feelsEgg_37 rfl 1 rfl rfl ?_
  refine x_iadd C (v := (nI (96 + i0))) dX12_feelsEgg_38 (nI_add 96 i0) rfl ?_
  refine x_ialk C (v := (fn (96 + i0))) (96 + i0) (nI_clamp (by omega)) (nI_pos (by omega)) (by omega) 1 k42 rfl dX12_feelsEgg_39 rfl ?_
  obtain ⟨n46, hn47, en48⟩ := NB_hen (j := i0) pfq (by omega)
  refine x_top en48 ?_
  refine x_iadd C (v := (nI (321 + n46))) dX12_feelsEgg_40 (nI_add 321 n46) rfl ?_
  refine x_ialk C (v := (fn (321 + n46))) (321 + n46) (nI_clamp (by omega)) (nI_pos (by omega)) (by omega) 1 k42 rfl dX12_feelsEgg_41 rfl ?_
  obtain ⟨w49, hw50⟩ : ∃ w : va_W, w = List.set w39 17 (iA E (a 17) 11 (upd (upd g36 2 (fn (96 + i0))) 3 (fn (321 + n46)))) := ⟨_, rfl⟩
  refine x_iask C 3 (by decide) (by decide) (by decide) 17 k44 hw50.symm dX12_feelsEgg_42 rfl ?_
  have hW51 : WX (okM E a cd kf jn js jq) w49 := by rw [hw50]; exact hW41.set (k := 17) rfl ⟨_, rfl⟩
  have k52 : w49[1]? = some (iA E (a 1) 382 fn) := by rw [hw50]; exact set_ne k42 (by decide)
  have k53 : w49[0]? = some (ob (a 0) 11 [.ref (a 1), .ref (a 2), .ref (a 3), .ref (a 4), .int (nI n2), .int (nI n4), .int (nI n6), .int v8, .int v9, .int v10, .int (nI n11), .int (nI n13), .int (nI n15), .int (nI (cd.2.2.2.2.2)), .ref (a 5), .ref (a 6), .ref (a 7), .ref (a 8), .ref (a 9), .ref (a 10), .ref (a 11), .ref (a 12), .ref (a 13), .ref (a 14), .ref (a 15), .ref (a 16), .ref (a 17), .int (nI n17), .ref (a 18), .ref (a 19), .ref (a 20), .ref (a 21), .int v19, .int v20, .int v21, .int v22, .int (nI n23), .int (nI n25), .ref (a 22), .ref (a 23), .ref (a 24), .ref (a 25), .ref (a 26), .ref (a 27), .ref (a 28), .ref (a 29), .ref (a 30), .int kf]) := by rw [hw50]; exact set_ne k43 (by decide)
  have k54 : w49[17]? = some (iA E (a 17) 11 (upd (upd g36 2 (fn (96 + i0))) 3 (fn (321 + n46)))) := by rw [hw50]; exact set_eq k44
  have kp55 := keeps_set kp45 hw50 (by first | exact rfl | decide | omega | (dsimp only; omega))
  refine x_aload_n C dX12_feelsEgg_43 rfl 0 rfl rfl ?_
  refine x_get C (ci := 11) (k := 26) 0 k53 rfl in_X12 (by decide) w_1144 rfl dX12_feelsEgg_44 rfl ?_
  refine x_iconst C (v := 5) dX12_feelsEgg_47 (by decide) rfl ?_
  refine x_aload_n C dX12_feelsEgg_48 rfl 0 rfl rfl ?_
  refine x_get C (ci := 11) (k := 0) 0 k53 rfl in_X12 (by decide) w_1118 rfl dX12_feelsEgg_49 rfl ?_
  refine x_iconst C (v := 0) dX12_feelsEgg_52 (by decide) rfl ?_
  refine x_iload_n C dX12_feelsEgg_53 rfl 1 rfl rfl ?_
  refine x_iadd C (v := (nI (0 + i0))) dX12_feelsEgg_54 (nI_add 0 i0) rfl ?_
  refine x_ialk C (v := (fn (0 + i0))) (0 + i0) (nI_clamp (by omega)) (nI_pos (by omega)) (by omega) 1 k52 rfl dX12_feelsEgg_55 rfl ?_
  obtain ⟨w56, hw57⟩ : ∃ w : va_W, w = List.set w49 17 (iA E (a 17) 11 (upd (upd (upd g36 2 (fn (96 + i0))) 3 (fn (321 + n46))) 5 (fn (0 + i0)))) := ⟨_, rfl⟩
  refine x_iask C 5 (by decide) (by decide) (by decide) 17 k54 hw57.symm dX12_feelsEgg_56 rfl ?_
  have hW58 : WX (okM E a cd kf jn js jq) w56 := by rw [hw57]; exact hW51.set (k := 17) rfl ⟨_, rfl⟩
  have k59 : w56[1]? = some (iA E (a 1) 382 fn) := by rw [hw57]; exact set_ne k52 (by decide)
  have k60 : w56[0]? = some (ob (a 0) 11 [.ref (a 1), .ref (a 2), .ref (a 3), .ref (a 4), .int (nI n2), .int (nI n4), .int (nI n6), .int v8, .int v9, .int v10, .int (nI n11), .int (nI n13), .int (nI n15), .int (nI (cd.2.2.2.2.2)), .ref (a 5), .ref (a 6), .ref (a 7), .ref (a 8), .ref (a 9), .ref (a 10), .ref (a 11), .ref (a 12), .ref (a 13), .ref (a 14), .ref (a 15), .ref (a 16), .ref (a 17), .int (nI n17), .ref (a 18), .ref (a 19), .ref (a 20), .ref (a 21), .int v19, .int v20, .int v21, .int v22, .int (nI n23), .int (nI n25), .ref (a 22), .ref (a 23), .ref (a 24), .ref (a 25), .ref (a 26), .ref (a 27), .ref (a 28), .ref (a 29), .ref (a 30), .int kf]) := by rw [hw57]; exact set_ne k53 (by decide)
  have k61 : w56[17]? = some (iA E (a 17) 11 (upd (upd (upd g36 2 (fn (96 + i0))) 3 (fn (321 + n46))) 5 (fn (0 + i0)))) := by rw [hw57]; exact set_eq k54
  have kp62 := keeps_set kp55 hw57 (by first | exact rfl | decide | omega | (dsimp only; omega))
  refine x_aload_n C dX12_feelsEgg_57 rfl 0 rfl rfl ?_
  refine x_get C (ci := 11) (k := 26) 0 k60 rfl in_X12 (by decide) w_1144 rfl dX12_feelsEgg_58 rfl ?_
  refine x_bipush C (v := 6) dX12_feelsEgg_61 (by decide) rfl ?_
  refine x_aload_n C dX12_feelsEgg_63 rfl 0 rfl rfl ?_
  refine x_get C (ci := 11) (k := 0) 0 k60 rfl in_X12 (by decide) w_1118 rfl dX12_feelsEgg_64 rfl ?_
  refine x_sipush C (v := 379) dX12_feelsEgg_67 (by decide) rfl ?_
  refine x_ialk C (v := (fn 379)) 379 (by decide) (by decide) (by decide) 1 k59 rfl dX12_feelsEgg_70 rfl ?_
  refine x_aload_n C dX12_feelsEgg_71 rfl 0 rfl rfl ?_
  refine x_get C (ci := 11) (k := 0) 0 k60 rfl in_X12 (by decide) w_1118 rfl dX12_feelsEgg_72 rfl ?_
  refine x_bipush C (v := 48) dX12_feelsEgg_75 (by decide) rfl ?_
  refine x_iload_n C dX12_feelsEgg_77 rfl 1 rfl rfl ?_
  refine x_iadd C (v := (nI (48 + i0))) dX12_feelsEgg_78 (nI_add 48 i0) rfl ?_
  refine x_ialk C (v := (fn (48 + i0))) (48 + i0) (nI_clamp (by omega)) (nI_pos (by omega)) (by omega) 1 k59 rfl dX12_feelsEgg_79 rfl ?_
  refine x_isub C (v := ((fn 379) - (fn (48 + i0)))) dX12_feelsEgg_80 rfl rfl ?_
  obtain ⟨w63, hw64⟩ : ∃ w : va_W, w = List.set w56 17 (iA E (a 17) 11 (upd (upd (upd (upd g36 2 (fn (96 + i0))) 3 (fn (321 + n46))) 5 (fn (0 + i0))) 6 ((fn 379) - (fn (48 + i0))))) := ⟨_, rfl⟩
  refine x_iask C 6 (by decide) (by decide) (by decide) 17 k61 hw64.symm dX12_feelsEgg_81 rfl ?_
  have hW65 : WX (okM E a cd kf jn js jq) w63 := by rw [hw64]; exact hW58.set (k := 17) rfl ⟨_, rfl⟩
  have k66 : w63[1]? = some (iA E (a 1) 382 fn) := by rw [hw64]; exact set_ne k59 (by decide)
  have k67 : w63[0]? = some (ob (a 0) 11 [.ref (a 1), .ref (a 2), .ref (a 3), .ref (a 4), .int (nI n2), .int (nI n4), .int (nI n6), .int v8, .int v9, .int v10, .int (nI n11), .int (nI n13), .int (nI n15), .int (nI (cd.2.2.2.2.2)), .ref (a 5), .ref (a 6), .ref (a 7), .ref (a 8), .ref (a 9), .ref (a 10), .ref (a 11), .ref (a 12), .ref (a 13), .ref (a 14), .ref (a 15), .ref (a 16), .ref (a 17), .int (nI n17), .ref (a 18), .ref (a 19), .ref (a 20), .ref (a 21), .int v19, .int v20, .int v21, .int v22, .int (nI n23), .int (nI n25), .ref (a 22), .ref (a 23), .ref (a 24), .ref (a 25), .ref (a 26), .ref (a 27), .ref (a 28), .ref (a 29), .ref (a 30), .int kf]) := by rw [hw64]; exact set_ne k60 (by decide)
  have k68 : w63[17]? = some (iA E (a 17) 11 (upd (upd (upd (upd g36 2 (fn (96 + i0))) 3 (fn (321 + n46))) 5 (fn (0 + i0))) 6 ((fn 379) - (fn (48 + i0))))) := by rw [hw64]; exact set_eq k61
  have kp69 := keeps_set kp62 hw64 (by first | exact rfl | decide | omega | (dsimp only; omega))
  refine x_aload_n C dX12_feelsEgg_82 rfl 0 rfl rfl ?_
  refine x_get C (ci := 11) (k := 26) 0 k67 rfl in_X12 (by decide) w_1144 rfl dX12_feelsEgg_83 rfl ?_
  refine x_bipush C (v := 7) dX12_feelsEgg_86 (by decide) rfl ?_
  refine x_aload_n C dX12_feelsEgg_88 rfl 0 rfl rfl ?_
  refine x_get C (ci := 11) (k := 0) 0 k67 rfl in_X12 (by decide) w_1118 rfl dX12_feelsEgg_89 rfl ?_
  refine x_sipush C (v := 192) dX12_feelsEgg_92 (by decide) rfl ?_
  refine x_iload_n C dX12_feelsEgg_95 rfl 1 rfl rfl ?_
  refine x_iadd C (v := (nI (192 + i0))) dX12_feelsEgg_96 (nI_add 192 i0) rfl ?_
  refine x_ialk C (v := (fn (192 + i0))) (192 + i0) (nI_clamp (by omega)) (nI_pos (by omega)) (by omega) 1 k66 rfl dX12_feelsEgg_97 rfl ?_
  obtain ⟨w70, hw71⟩ : ∃ w : va_W, w = List.set w63 17 (iA E (a 17) 11 (upd (upd (upd (upd (upd g36 2 (fn (96 + i0))) 3 (fn (321 + n46))) 5 (fn (0 + i0))) 6 ((fn 379) - (fn (48 + i0)))) 7 (fn (192 + i0)))) := ⟨_, rfl⟩
  refine x_iask C 7 (by decide) (by decide) (by decide) 17 k68 hw71.symm dX12_feelsEgg_98 rfl ?_
  have hW72 : WX (okM E a cd kf jn js jq) w70 := by rw [hw71]; exact hW65.set (k := 17) rfl ⟨_, rfl⟩
  have k73 : w70[1]? = some (iA E (a 1) 382 fn) := by rw [hw71]; exact set_ne k66 (by decide)
  have k74 : w70[0]? = some (ob (a 0) 11 [.ref (a 1), .ref (a 2), .ref (a 3), .ref (a 4), .int (nI n2), .int (nI n4), .int (nI n6), .int v8, .int v9, .int v10, .int (nI n11), .int (nI n13), .int (nI n15), .int (nI (cd.2.2.2.2.2)), .ref (a 5), .ref (a 6), .ref (a 7), .ref (a 8), .ref (a 9), .ref (a 10), .ref (a 11), .ref (a 12), .ref (a 13), .ref (a 14), .ref (a 15), .ref (a 16), .ref (a 17), .int (nI n17), .ref (a 18), .ref (a 19), .ref (a 20), .ref (a 21), .int v19, .int v20, .int v21, .int v22, .int (nI n23), .int (nI n25), .ref (a 22), .ref (a 23), .ref (a 24), .ref (a 25), .ref (a 26), .ref (a 27), .ref (a 28), .ref (a 29), .ref (a 30), .int kf]) := by rw [hw71]; exact set_ne k67 (by decide)
  have k75 : w70[17]? = some (iA E (a 17) 11 (upd (upd (upd (upd (upd g36 2 (fn (96 + i0))) 3 (fn (321 + n46))) 5 (fn (0 + i0))) 6 ((fn 379) - (fn (48 + i0)))) 7 (fn (192 + i0)))) := by rw [hw71]; exact set_eq k68
  have kp76 := keeps_set kp69 hw71 (by first | exact rfl | decide | omega | (dsimp only; omega))
  refine x_aload_n C dX12_feelsEgg_99 rfl 0 rfl rfl ?_
  refine x_get C (ci := 11) (k := 26) 0 k74 rfl in_X12 (by decide) w_1144 rfl dX12_feelsEgg_100 rfl ?_
  refine x_bipush C (v := 8) dX12_feelsEgg_103 (by decide) rfl ?_
  refine x_aload_n C dX12_feelsEgg_105 rfl 0 rfl rfl ?_
  refine x_get C (ci := 11) (k := 0) 0 k74 rfl in_X12 (by decide) w_1118 rfl dX12_feelsEgg_106 rfl ?_
  refine x_sipush C (v := 144) dX12_feelsEgg_109 (by decide) rfl ?_
  refine x_iload_n C dX12_feelsEgg_112 rfl 1 rfl rfl ?_
  refine x_iadd C (v := (nI (144 + i0))) dX12_feelsEgg_113 (nI_add 144 i0) rfl ?_
  refine x_ialk C (v := (fn (144 + i0))) (144 + i0) (nI_clamp (by omega)) (nI_pos (by omega)) (by omega) 1 k73 rfl dX12_feelsEgg_114 rfl ?_
  obtain ⟨w77, hw78⟩ : ∃ w : va_W, w = List.set w70 17 (iA E (a 17) 11 (upd (upd (upd (upd (upd (upd g36 2 (fn (96 + i0))) 3 (fn (321 + n46))) 5 (fn (0 + i0))) 6 ((fn 379) - (fn (48 + i0)))) 7 (fn (192 + i0))) 8 (fn (144 + i0)))) := ⟨_, rfl⟩
  refine x_iask C 8 (by decide) (by decide) (by decide) 17 k75 hw78.symm dX12_feelsEgg_115 rfl ?_
  have hW79 : WX (okM E a cd kf jn js jq) w77 := by rw [hw78]; exact hW72.set (k := 17) rfl ⟨_, rfl⟩
  have k80 : w77[1]? = some (iA E (a 1) 382 fn) := by rw [hw78]; exact set_ne k73 (by decide)
  have k81 : w77[0]? = some (ob (a 0) 11 [.ref (a 1), .ref (a 2), .ref (a 3), .ref (a 4), .int (nI n2), .int (nI n4), .int (nI n6), .int v8, .int v9, .int v10, .int (nI n11), .int (nI n13), .int (nI n15), .int (nI (cd.2.2.2.2.2)), .ref (a 5), .ref (a 6), .ref (a 7), .ref (a 8), .ref (a 9), .ref (a 10), .ref (a 11), .ref (a 12), .ref (a 13), .ref (a 14), .ref (a 15), .ref (a 16), .ref (a 17), .int (nI n17), .ref (a 18), .ref (a 19), .ref (a 20), .ref (a 21), .int v19, .int v20, .int v21, .int v22, .int (nI n23), .int (nI n25), .ref (a 22), .ref (a 23), .ref (a 24), .ref (a 25), .ref (a 26), .ref (a 27), .ref (a 28), .ref (a 29), .ref (a 30), .int kf]) := by rw [hw78]; exact set_ne k74 (by decide)
  have k82 : w77[17]? = some (iA E (a 17) 11 (upd (upd (upd (upd (upd (upd g36 2 (fn (96 + i0))) 3 (fn (321 + n46))) 5 (fn (0 + i0))) 6 ((fn 379) - (fn (48 + i0)))) 7 (fn (192 + i0))) 8 (fn (144 + i0)))) := by rw [hw78]; exact set_eq k75
  have kp83 := keeps_set kp76 hw78 (by first | exact rfl | decide | omega | (dsimp only; omega))
  exact x_vret C hr hlk dX12_feelsEgg_116 ⟨hW79, kp83, (by rw [flE, show (fn (96 + i0)).toNatClampNeg = n46 from by rw [en48]; exact nI_clamp (by omega)]; exact ⟨_, k82, clip_upd (clip_upd (clip_upd (clip_upd (clip_upd (clip_upd (ecl38))))))⟩)⟩
theorem dX12_badBehind_0 : decode cX12_badBehind 0 = .ok (.aload_n 0, 1) := by decide +kernel
theorem dX12_badBehind_1 : decode cX12_badBehind 1 = .ok (.iload_n 1, 1) := by decide +kernel
theorem dX12_badBehind_2 : decode cX12_badBehind 2 = .ok (.invokevirtual 237, 3) := by decide +kernel
theorem dX12_badBehind_5 : decode cX12_badBehind 5 = .ok (.aload_n 0, 1) := by decide +kernel
theorem dX12_badBehind_6 : decode cX12_badBehind 6 = .ok (.bipush 98, 2) := by decide +kernel
theorem dX12_badBehind_8 : decode cX12_badBehind 8 = .ok (.bipush 99, 2) := by decide +kernel
theorem dX12_badBehind_10 : decode cX12_badBehind 10 = .ok (.invokevirtual 240, 3) := by decide +kernel
theorem dX12_badBehind_13 : decode cX12_badBehind 13 = .ok (.ireturn, 1) := by decide +kernel
set_option maxRecDepth 20000 in
set_option maxHeartbeats 4000000 in
theorem m_badBehind (E : xE) (l : Launch) (a : Nat → Nat) (cd : Cd) (hG : Good cd) (kf : Int32) (jn js jq : Lb) (ws : va_W) (hW : WX (okM E a cd kf jn js jq) ws) (i0 : Nat) (hi0 : i0 ≤ 47) : xI E l yX12_badBehind cX12_badBehind 2 (some .int) 3 [.ref (a 0), .int (nI i0)] ws (fun r w => WX (okM E a cd kf jn js jq) w ∧ keeps ws w (fun q => q = 16 ∨ q = 17) ∧ (∃ rn : Nat, rn ≤ 99 ∧ r = nI rn)) := by
  refine xI_start (lv := [(0, .ref (a 0)), (1, .int (nI i0))]) RX12 (by decide) rfl (Nat.le_of_ble_eq_true rfl) rfl (fun p e s m below meth c A C hr hlk => ?_)
  have kp0 : keeps ws ws (fun q => q = 16 ∨ q = 17) := keeps_rf
  obtain ⟨_, k1, f2, pf3, rfl⟩ := hW 1 _ rfl
  refine x_aload_n C dX12_badBehind_0 rfl 0 rfl rfl ?_
  refine x_iload_n C dX12_badBehind_1 rfl 1 rfl rfl ?_
  obtain ⟨_, k4, n5, n7, n9, v11, v12, v13, n14, n16, n18, n20, v22, v23, v24, v25, n26, n28, bn6, bn8, bn10, bn15, bn17, bn19, bn21, bn27, bn29, rfl⟩ := hW 0 _ rfl
  refine x_vv C (As := [.int (nI i0)]) (rest := []) (m_feelsEgg E l a cd hG kf jn js jq ws hW i0 (by omega) f2 k1) mf_X12_feelsEgg w_1455 0 k4 rfl rfl rfl (Nat.le_of_ble_eq_true rfl) ⟨(Nat.le_of_ble_eq_true rfl), (Nat.le_of_ble_eq_true rfl)⟩ ⟨(Nat.le_of_ble_eq_true rfl), (Nat.le_of_ble_eq_true rfl)⟩ dX12_badBehind_2 rfl (fun w32 h30 => ?_)
  obtain ⟨hW33, kq34, x35⟩ := h30
  have k36 : w32[1]? = some (iA E (a 1) 382 f2) := keeps_at kq34 k1 (by first | decide | omega | (dsimp only; omega))
  have k37 : w32[0]? = some (ob (a 0) 11 [.ref (a 1), .ref (a 2), .ref (a 3), .ref (a 4), .int (nI n5), .int (nI n7), .int (nI n9), .int v11, .int v12, .int v13, .int (nI n14), .int (nI n16), .int (nI n18), .int (nI (cd.2.2.2.2.2)), .ref (a 5), .ref (a 6), .ref (a 7), .ref (a 8), .ref (a 9), .ref (a 10), .ref (a 11), .ref (a 12), .ref (a 13), .ref (a 14), .ref (a 15), .ref (a 16), .ref (a 17), .int (nI n20), .ref (a 18), .ref (a 19), .ref (a 20), .ref (a 21), .int v22, .int v23, .int v24, .int v25, .int (nI n26), .int (nI n28), .ref (a 22), .ref (a 23), .ref (a 24), .ref (a 25), .ref (a 26), .ref (a 27), .ref (a 28), .ref (a 29), .ref (a 30), .int kf]) := keeps_at kq34 k4 (by first | decide | omega | (dsimp only; omega))
  have kp38 := keeps_tr kp0 kq34 (fun q hq => by first | omega | (dsimp only at *; omega))
  obtain ⟨g39, k40, ecl41⟩ := x35
  refine x_aload_n C dX12_badBehind_5 rfl 0 rfl rfl ?_
  refine x_bipush C (v := 98) dX12_badBehind_6 (by decide) rfl ?_
  refine x_bipush C (v := 99) dX12_badBehind_8 (by decide) rfl ?_
  refine x_vi C (As := [.int 98, .int 99]) (rest := []) (m_byLaw E l a cd hG kf jn js jq w32 hW33 (98 : Int32) 99 (by omega) g39 k40) mf_X12_byLaw w_1463 0 k37 rfl rfl rfl (Nat.le_of_ble_eq_true rfl) ⟨(Nat.le_of_ble_eq_true rfl), (Nat.le_of_ble_eq_true rfl)⟩ ⟨(Nat.le_of_ble_eq_true rfl), (Nat.le_of_ble_eq_true rfl)⟩ dX12_badBehind_10 rfl (fun r43 w44 h42 => ?_)
  obtain ⟨hW45, kq46, ⟨m48, bm49, e47⟩, x50⟩ := h42
  refine x_top e47 ?_
  have k51 : w44[1]? = some (iA E (a 1) 382 f2) := keeps_at kq46 k36 (by first | decide | omega | (dsimp only; omega))
  have k52 : w44[0]? = some (ob (a 0) 11 [.ref (a 1), .ref (a 2), .ref (a 3), .ref (a 4), .int (nI n5), .int (nI n7), .int (nI n9), .int v11, .int v12, .int v13, .int (nI n14), .int (nI n16), .int (nI n18), .int (nI (cd.2.2.2.2.2)), .ref (a 5), .ref (a 6), .ref (a 7), .ref (a 8), .ref (a 9), .ref (a 10), .ref (a 11), .ref (a 12), .ref (a 13), .ref (a 14), .ref (a 15), .ref (a 16), .ref (a 17), .int (nI n20), .ref (a 18), .ref (a 19), .ref (a 20), .ref (a 21), .int v22, .int v23, .int v24, .int v25, .int (nI n26), .int (nI n28), .ref (a 22), .ref (a 23), .ref (a 24), .ref (a 25), .ref (a 26), .ref (a 27), .ref (a 28), .ref (a 29), .ref (a 30), .int kf]) := keeps_at kq46 k37 (by first | decide | omega | (dsimp only; omega))
  have k53 : w44[17]? = some (iA E (a 17) 11 g39) := keeps_at kq46 k40 (by first | decide | omega | (dsimp only; omega))
  have kp54 := keeps_tr kp38 kq46 (fun q hq => by first | omega | (dsimp only at *; omega))
  exact x_zret C hr hlk rfl dX12_badBehind_13 ⟨hW45, kp54, ⟨m48, by omega, rfl⟩⟩
theorem dX12_badOn_0 : decode cX12_badOn 0 = .ok (.aload_n 0, 1) := by decide +kernel
theorem dX12_badOn_1 : decode cX12_badOn 1 = .ok (.iload_n 1, 1) := by decide +kernel
theorem dX12_badOn_2 : decode cX12_badOn 2 = .ok (.invokevirtual 243, 3) := by decide +kernel
theorem dX12_badOn_5 : decode cX12_badOn 5 = .ok (.istore_n 2, 1) := by decide +kernel
theorem dX12_badOn_6 : decode cX12_badOn 6 = .ok (.iload_n 2, 1) := by decide +kernel
theorem dX12_badOn_7 : decode cX12_badOn 7 = .ok (.ifCond .ne 8, 3) := by decide +kernel
theorem dX12_badOn_10 : decode cX12_badOn 10 = .ok (.ldc 246, 2) := by decide +kernel
theorem dX12_badOn_12 : decode cX12_badOn 12 = .ok (.goto 14, 3) := by decide +kernel
theorem dX12_badOn_15 : decode cX12_badOn 15 = .ok (.aload_n 0, 1) := by decide +kernel
theorem dX12_badOn_16 : decode cX12_badOn 16 = .ok (.getfield 7, 3) := by decide +kernel
theorem dX12_badOn_19 : decode cX12_badOn 19 = .ok (.bipush 48, 2) := by decide +kernel
theorem dX12_badOn_21 : decode cX12_badOn 21 = .ok (.iload_n 1, 1) := by decide +kernel
theorem dX12_badOn_22 : decode cX12_badOn 22 = .ok (.iadd, 1) := by decide +kernel
theorem dX12_badOn_23 : decode cX12_badOn 23 = .ok (.iaload, 1) := by decide +kernel
theorem dX12_badOn_24 : decode cX12_badOn 24 = .ok (.iload_n 2, 1) := by decide +kernel
theorem dX12_badOn_25 : decode cX12_badOn 25 = .ok (.iadd, 1) := by decide +kernel
theorem dX12_badOn_26 : decode cX12_badOn 26 = .ok (.ireturn, 1) := by decide +kernel
set_option maxRecDepth 20000 in
set_option maxHeartbeats 4000000 in
theorem m_badOn (E : xE) (l : Launch) (a : Nat → Nat) (cd : Cd) (hG : Good cd) (kf : Int32) (jn js jq : Lb) (ws : va_W) (hW : WX (okM E a cd kf jn js jq) ws) (i0 : Nat) (hi0 : i0 ≤ 47) : xI E l yX12_badOn cX12_badOn 3 (some .int) 4 [.ref (a 0), .int (nI i0)] ws (fun r w => WX (okM E a cd kf jn js jq) w ∧ keeps ws w (fun q => q = 16 ∨ q = 17) ∧ (r = 1000000000 ∨ ∃ n : Nat, n ≤ 12000 ∧ r = nI n)) := by
  refine xI_start (lv := [(0, .ref (a 0)), (1, .int (nI i0))]) RX12 (by decide) rfl (Nat.le_of_ble_eq_true rfl) rfl (fun p e s m below meth c A C hr hlk => ?_)
  have kp0 : keeps ws ws (fun q => q = 16 ∨ q = 17) := keeps_rf
  refine x_aload_n C dX12_badOn_0 rfl 0 rfl rfl ?_
  refine x_iload_n C dX12_badOn_1 rfl 1 rfl rfl ?_
  obtain ⟨_, k1, n2, n4, n6, v8, v9, v10, n11, n13, n15, n17, v19, v20, v21, v22, n23, n25, bn3, bn5, bn7, bn12, bn14, bn16, bn18, bn24, bn26, rfl⟩ := hW 0 _ rfl
  refine x_vi C (As := [.int (nI i0)]) (rest := []) (m_badBehind E l a cd hG kf jn js jq ws hW i0 (by omega)) mf_X12_badBehind w_1518 0 k1 rfl rfl rfl (Nat.le_of_ble_eq_true rfl) ⟨(Nat.le_of_ble_eq_true rfl), (Nat.le_of_ble_eq_true rfl)⟩ ⟨(Nat.le_of_ble_eq_true rfl), (Nat.le_of_ble_eq_true rfl)⟩ dX12_badOn_2 rfl (fun r28 w29 h27 => ?_)
  obtain ⟨hW30, kq31, ⟨m33, bm34, e32⟩⟩ := h27
  refine x_top e32 ?_
  have k35 : w29[0]? = some (ob (a 0) 11 [.ref (a 1), .ref (a 2), .ref (a 3), .ref (a 4), .int (nI n2), .int (nI n4), .int (nI n6), .int v8, .int v9, .int v10, .int (nI n11), .int (nI n13), .int (nI n15), .int (nI (cd.2.2.2.2.2)), .ref (a 5), .ref (a 6), .ref (a 7), .ref (a 8), .ref (a 9), .ref (a 10), .ref (a 11), .ref (a 12), .ref (a 13), .ref (a 14), .ref (a 15), .ref (a 16), .ref (a 17), .int (nI n17), .ref (a 18), .ref (a 19), .ref (a 20), .ref (a 21), .int v19, .int v20, .int v21, .int v22, .int (nI n23), .int (nI n25), .ref (a 22), .ref (a 23), .ref (a 24), .ref (a 25), .ref (a 26), .ref (a 27), .ref (a 28), .ref (a 29), .ref (a 30), .int kf]) := keeps_at kq31 k1 (by first | decide | omega | (dsimp only; omega))
  have kp36 := keeps_tr kp0 kq31 (fun q hq => by first | omega | (dsimp only at *; omega))
  refine x_istore_n C (lv' := [(2, .int (nI m33)), (0, .ref (a 0)), (1, .int (nI i0))]) dX12_badOn_5 rfl (by decide) rfl rfl ?_
  refine x_iload_n C dX12_badOn_6 rfl 0 rfl rfl ?_
  refine x_if_ne C (tgt := 15) dX12_badOn_7 (by decide) rfl (fun c37 => ?_) (fun c37 => ?_)
  · skip
    have nf38 : ¬ m33 = 0 := fun q => c37 (congrArg nI q)
    refine x_aload_n C dX12_badOn_15 rfl 1 rfl rfl ?_
    refine x_get C (ci := 11) (k := 0) 0 k35 rfl in_X12 (by decide) w_1118 rfl dX12_badOn_16 rfl ?_
    refine x_bipush C (v := 48) dX12_badOn_19 (by decide) rfl ?_
    refine x_iload_n C dX12_badOn_21 rfl 2 rfl rfl ?_
    refine x_iadd C (v := (nI (48 + i0))) dX12_badOn_22 (nI_add 48 i0) rfl ?_
    obtain ⟨_, k39, f40, pf41, rfl⟩ := hW30 1 _ rfl
    obtain ⟨n42, hn43, en44⟩ := NB_lo (j := i0) pf41 (by omega)
    refine x_ialk C (v := nI n42) (48 + i0) (nI_clamp (by omega)) (nI_pos (by omega)) (by omega) 1 k39 en44 dX12_badOn_23 rfl ?_
    refine x_iload_n C dX12_badOn_24 rfl 0 rfl rfl ?_
    refine x_iadd C (v := (nI (n42 + m33))) dX12_badOn_25 (nI_add n42 m33) rfl ?_
    exact x_zret C hr hlk rfl dX12_badOn_26 ⟨hW30, kp36, (Or.inr ⟨_, by omega, rfl⟩)⟩
  · skip
    have nf45 : m33 = 0 := (nI_eq (by omega) (by omega)).mp c37
    refine x_ldc C w_1538 dX12_badOn_10 rfl ?_
    refine x_goto C (tgt := 26) dX12_badOn_12 (by decide) ?_
    exact x_zret C hr hlk rfl dX12_badOn_26 ⟨hW30, kp36, (Or.inl rfl)⟩
theorem dX12_worthFor_0 : decode cX12_worthFor 0 = .ok (.aload_n 0, 1) := by decide +kernel
theorem dX12_worthFor_1 : decode cX12_worthFor 1 = .ok (.iload_n 1, 1) := by decide +kernel
theorem dX12_worthFor_2 : decode cX12_worthFor 2 = .ok (.invokevirtual 237, 3) := by decide +kernel
theorem dX12_worthFor_5 : decode cX12_worthFor 5 = .ok (.aload_n 0, 1) := by decide +kernel
theorem dX12_worthFor_6 : decode cX12_worthFor 6 = .ok (.getfield 59, 3) := by decide +kernel
theorem dX12_worthFor_9 : decode cX12_worthFor 9 = .ok (.bipush 9, 2) := by decide +kernel
theorem dX12_worthFor_11 : decode cX12_worthFor 11 = .ok (.iload_n 2, 1) := by decide +kernel
theorem dX12_worthFor_12 : decode cX12_worthFor 12 = .ok (.iastore, 1) := by decide +kernel
theorem dX12_worthFor_13 : decode cX12_worthFor 13 = .ok (.aload_n 0, 1) := by decide +kernel
theorem dX12_worthFor_14 : decode cX12_worthFor 14 = .ok (.bipush 116, 2) := by decide +kernel
theorem dX12_worthFor_16 : decode cX12_worthFor 16 = .ok (.sipush 240, 3) := by decide +kernel
theorem dX12_worthFor_19 : decode cX12_worthFor 19 = .ok (.invokevirtual 240, 3) := by decide +kernel
theorem dX12_worthFor_22 : decode cX12_worthFor 22 = .ok (.ireturn, 1) := by decide +kernel
set_option maxRecDepth 20000 in
set_option maxHeartbeats 4000000 in
theorem m_worthFor (E : xE) (l : Launch) (a : Nat → Nat) (cd : Cd) (hG : Good cd) (kf : Int32) (jn js jq : Lb) (ws : va_W) (hW : WX (okM E a cd kf jn js jq) ws) (i0 : Nat) (wk : Int32) (hi0 : i0 ≤ 47) (fn : Nat → Int32) (hfn : ws[1]? = some (iA E (a 1) 382 fn)) : xI E l yX12_worthFor cX12_worthFor 3 (some .int) 3 [.ref (a 0), .int (nI i0), .int wk] ws (fun r w => WX (okM E a cd kf jn js jq) w ∧ keeps ws w (fun q => q = 16 ∨ q = 17) ∧ (∃ rn : Nat, rn ≤ 240 ∧ r = nI rn) ∧ (r = wFor cd fn i0 wk)) := by
  refine xI_start (lv := [(0, .ref (a 0)), (1, .int (nI i0)), (2, .int wk)]) RX12 (by decide) rfl (Nat.le_of_ble_eq_true rfl) rfl (fun p e s m below meth c A C hr hlk => ?_)
  have kp0 : keeps ws ws (fun q => q = 16 ∨ q = 17) := keeps_rf
  obtain ⟨_, kq1, fq, pfq, rfl⟩ := hW 1 _ rfl
  obtain rfl := iA_inj (hfn.symm.trans kq1)
  refine x_aload_n C dX12_worthFor_0 rfl 0 rfl rfl ?_
  refine x_iload_n C dX12_worthFor_1 rfl 1 rfl rfl ?_
  obtain ⟨_, k1, n2, n4, n6, v8, v9, v10, n11, n13, n15, n17, v19, v20, v21, v22, n23, n25, bn3, bn5, bn7, bn12, bn14, bn16, bn18, bn24, bn26, rfl⟩ := hW 0 _ rfl
  refine x_vv C (As := [.int (nI i0)]) (rest := []) (m_feelsEgg E l a cd hG kf jn js jq ws hW i0 (by omega) fn hfn) mf_X12_feelsEgg w_1455 0 k1 rfl rfl rfl (Nat.le_of_ble_eq_true rfl) ⟨(Nat.le_of_ble_eq_true rfl), (Nat.le_of_ble_eq_true rfl)⟩ ⟨(Nat.le_of_ble_eq_true rfl), (Nat.le_of_ble_eq_true rfl)⟩ dX12_worthFor_2 rfl (fun w29 h27 => ?_)
  obtain ⟨hW30, kq31, x32⟩ := h27
  have k33 : w29[1]? = some (iA E (a 1) 382 fn) := keeps_at kq31 hfn (by first | decide | omega | (dsimp only; omega))
  have k34 : w29[0]? = some (ob (a 0) 11 [.ref (a 1), .ref (a 2), .ref (a 3), .ref (a 4), .int (nI n2), .int (nI n4), .int (nI n6), .int v8, .int v9, .int v10, .int (nI n11), .int (nI n13), .int (nI n15), .int (nI (cd.2.2.2.2.2)), .ref (a 5), .ref (a 6), .ref (a 7), .ref (a 8), .ref (a 9), .ref (a 10), .ref (a 11), .ref (a 12), .ref (a 13), .ref (a 14), .ref (a 15), .ref (a 16), .ref (a 17), .int (nI n17), .ref (a 18), .ref (a 19), .ref (a 20), .ref (a 21), .int v19, .int v20, .int v21, .int v22, .int (nI n23), .int (nI n25), .ref (a 22), .ref (a 23), .ref (a 24), .ref (a 25), .ref (a 26), .ref (a 27), .ref (a 28), .ref (a 29), .ref (a 30), .int kf]) := keeps_at kq31 k1 (by first | decide | omega | (dsimp only; omega))
  have kp35 := keeps_tr kp0 kq31 (fun q hq => by first | omega | (dsimp only at *; omega))
  obtain ⟨g36, k37, ecl38⟩ := x32
  refine x_aload_n C dX12_worthFor_5 rfl 0 rfl rfl ?_
  refine x_get C (ci := 11) (k := 26) 0 k34 rfl in_X12 (by decide) w_1144 rfl dX12_worthFor_6 rfl ?_
  refine x_bipush C (v := 9) dX12_worthFor_9 (by decide) rfl ?_
  refine x_iload_n C dX12_worthFor_11 rfl 2 rfl rfl ?_
  obtain ⟨w39, hw40⟩ : ∃ w : va_W, w = List.set w29 17 (iA E (a 17) 11 (upd g36 9 wk)) := ⟨_, rfl⟩
  refine x_iask C 9 (by decide) (by decide) (by decide) 17 k37 hw40.symm dX12_worthFor_12 rfl ?_
  have hW41 : WX (okM E a cd kf jn js jq) w39 := by rw [hw40]; exact hW30.set (k := 17) rfl ⟨_, rfl⟩
  have k42 : w39[1]? = some (iA E (a 1) 382 fn) := by rw [hw40]; exact set_ne k33 (by decide)
  have k43 : w39[0]? = some (ob (a 0) 11 [.ref (a 1), .ref (a 2), .ref (a 3), .ref (a 4), .int (nI n2), .int (nI n4), .int (nI n6), .int v8, .int v9, .int v10, .int (nI n11), .int (nI n13), .int (nI n15), .int (nI (cd.2.2.2.2.2)), .ref (a 5), .ref (a 6), .ref (a 7), .ref (a 8), .ref (a 9), .ref (a 10), .ref (a 11), .ref (a 12), .ref (a 13), .ref (a 14), .ref (a 15), .ref (a 16), .ref (a 17), .int (nI n17), .ref (a 18), .ref (a 19), .ref (a 20), .ref (a 21), .int v19, .int v20, .int v21, .int v22, .int (nI n23), .int (nI n25), .ref (a 22), .ref (a 23), .ref (a 24), .ref (a 25), .ref (a 26), .ref (a 27), .ref (a 28), .ref (a 29), .ref (a 30), .int kf]) := by rw [hw40]; exact set_ne k34 (by decide)
  have k44 : w39[17]? = some (iA E (a 17) 11 (upd g36 9 wk)) := by rw [hw40]; exact set_eq k37
  have kp45 := keeps_set kp35 hw40 (by first | exact rfl | decide | omega | (dsimp only; omega))
  refine x_aload_n C dX12_worthFor_13 rfl 0 rfl rfl ?_
  refine x_bipush C (v := 116) dX12_worthFor_14 (by decide) rfl ?_
  refine x_sipush C (v := 240) dX12_worthFor_16 (by decide) rfl ?_
  refine x_vi C (As := [.int 116, .int 240]) (rest := []) (m_byLaw E l a cd hG kf jn js jq w39 hW41 (116 : Int32) 240 (by omega) ((upd g36 9 wk)) k44) mf_X12_byLaw w_1463 0 k43 rfl rfl rfl (Nat.le_of_ble_eq_true rfl) ⟨(Nat.le_of_ble_eq_true rfl), (Nat.le_of_ble_eq_true rfl)⟩ ⟨(Nat.le_of_ble_eq_true rfl), (Nat.le_of_ble_eq_true rfl)⟩ dX12_worthFor_19 rfl (fun r47 w48 h46 => ?_)
  obtain ⟨hW49, kq50, ⟨m52, bm53, e51⟩, x54⟩ := h46
  refine x_top e51 ?_
  have k55 : w48[1]? = some (iA E (a 1) 382 fn) := keeps_at kq50 k42 (by first | decide | omega | (dsimp only; omega))
  have k56 : w48[0]? = some (ob (a 0) 11 [.ref (a 1), .ref (a 2), .ref (a 3), .ref (a 4), .int (nI n2), .int (nI n4), .int (nI n6), .int v8, .int v9, .int v10, .int (nI n11), .int (nI n13), .int (nI n15), .int (nI (cd.2.2.2.2.2)), .ref (a 5), .ref (a 6), .ref (a 7), .ref (a 8), .ref (a 9), .ref (a 10), .ref (a 11), .ref (a 12), .ref (a 13), .ref (a 14), .ref (a 15), .ref (a 16), .ref (a 17), .int (nI n17), .ref (a 18), .ref (a 19), .ref (a 20), .ref (a 21), .int v19, .int v20, .int v21, .int v22, .int (nI n23), .int (nI n25), .ref (a 22), .ref (a 23), .ref (a 24), .ref (a 25), .ref (a 26), .ref (a 27), .ref (a 28), .ref (a 29), .ref (a 30), .int kf]) := keeps_at kq50 k43 (by first | decide | omega | (dsimp only; omega))
  have k57 : w48[17]? = some (iA E (a 17) 11 (upd g36 9 wk)) := keeps_at kq50 k44 (by first | decide | omega | (dsimp only; omega))
  have kp58 := keeps_tr kp45 kq50 (fun q hq => by first | omega | (dsimp only at *; omega))
  exact x_zret C hr hlk rfl dX12_worthFor_22 ⟨hW49, kp58, ⟨m52, by omega, rfl⟩, (by rw [wFor]; refine (e51.symm.trans x54).trans ?_; rw [show clip (upd g36 9 wk) = clip (upd (flE fn i0) 9 wk) from clip_upd ecl38])⟩
theorem dX12_gives_0 : decode cX12_gives 0 = .ok (.aload_n 0, 1) := by decide +kernel
theorem dX12_gives_1 : decode cX12_gives 1 = .ok (.getfield 7, 3) := by decide +kernel
theorem dX12_gives_4 : decode cX12_gives 4 = .ok (.sipush 144, 3) := by decide +kernel
theorem dX12_gives_7 : decode cX12_gives 7 = .ok (.iload_n 1, 1) := by decide +kernel
theorem dX12_gives_8 : decode cX12_gives 8 = .ok (.iadd, 1) := by decide +kernel
theorem dX12_gives_9 : decode cX12_gives 9 = .ok (.iaload, 1) := by decide +kernel
theorem dX12_gives_10 : decode cX12_gives 10 = .ok (.istore_n 3, 1) := by decide +kernel
theorem dX12_gives_11 : decode cX12_gives 11 = .ok (.aload_n 0, 1) := by decide +kernel
theorem dX12_gives_12 : decode cX12_gives 12 = .ok (.getfield 7, 3) := by decide +kernel
theorem dX12_gives_15 : decode cX12_gives 15 = .ok (.sipush 312, 3) := by decide +kernel
theorem dX12_gives_18 : decode cX12_gives 18 = .ok (.iload_n 3, 1) := by decide +kernel
theorem dX12_gives_19 : decode cX12_gives 19 = .ok (.iadd, 1) := by decide +kernel
theorem dX12_gives_20 : decode cX12_gives 20 = .ok (.aload_n 0, 1) := by decide +kernel
theorem dX12_gives_21 : decode cX12_gives 21 = .ok (.getfield 7, 3) := by decide +kernel
theorem dX12_gives_24 : decode cX12_gives 24 = .ok (.sipush 312, 3) := by decide +kernel
theorem dX12_gives_27 : decode cX12_gives 27 = .ok (.iload_n 3, 1) := by decide +kernel
theorem dX12_gives_28 : decode cX12_gives 28 = .ok (.iadd, 1) := by decide +kernel
theorem dX12_gives_29 : decode cX12_gives 29 = .ok (.iaload, 1) := by decide +kernel
theorem dX12_gives_30 : decode cX12_gives 30 = .ok (.aload_n 0, 1) := by decide +kernel
theorem dX12_gives_31 : decode cX12_gives 31 = .ok (.getfield 7, 3) := by decide +kernel
theorem dX12_gives_34 : decode cX12_gives 34 = .ok (.iconst 0, 1) := by decide +kernel
theorem dX12_gives_35 : decode cX12_gives 35 = .ok (.iload_n 1, 1) := by decide +kernel
theorem dX12_gives_36 : decode cX12_gives 36 = .ok (.iadd, 1) := by decide +kernel
theorem dX12_gives_37 : decode cX12_gives 37 = .ok (.iaload, 1) := by decide +kernel
theorem dX12_gives_38 : decode cX12_gives 38 = .ok (.iadd, 1) := by decide +kernel
theorem dX12_gives_39 : decode cX12_gives 39 = .ok (.iastore, 1) := by decide +kernel
theorem dX12_gives_40 : decode cX12_gives 40 = .ok (.aload_n 0, 1) := by decide +kernel
theorem dX12_gives_41 : decode cX12_gives 41 = .ok (.getfield 7, 3) := by decide +kernel
theorem dX12_gives_44 : decode cX12_gives 44 = .ok (.sipush 304, 3) := by decide +kernel
theorem dX12_gives_47 : decode cX12_gives 47 = .ok (.iload_n 2, 1) := by decide +kernel
theorem dX12_gives_48 : decode cX12_gives 48 = .ok (.iadd, 1) := by decide +kernel
theorem dX12_gives_49 : decode cX12_gives 49 = .ok (.aload_n 0, 1) := by decide +kernel
theorem dX12_gives_50 : decode cX12_gives 50 = .ok (.getfield 7, 3) := by decide +kernel
theorem dX12_gives_53 : decode cX12_gives 53 = .ok (.sipush 304, 3) := by decide +kernel
theorem dX12_gives_56 : decode cX12_gives 56 = .ok (.iload_n 2, 1) := by decide +kernel
theorem dX12_gives_57 : decode cX12_gives 57 = .ok (.iadd, 1) := by decide +kernel
theorem dX12_gives_58 : decode cX12_gives 58 = .ok (.iaload, 1) := by decide +kernel
theorem dX12_gives_59 : decode cX12_gives 59 = .ok (.aload_n 0, 1) := by decide +kernel
theorem dX12_gives_60 : decode cX12_gives 60 = .ok (.getfield 7, 3) := by decide +kernel
theorem dX12_gives_63 : decode cX12_gives 63 = .ok (.iconst 0, 1) := by decide +kernel
theorem dX12_gives_64 : decode cX12_gives 64 = .ok (.iload_n 1, 1) := by decide +kernel
theorem dX12_gives_65 : decode cX12_gives 65 = .ok (.iadd, 1) := by decide +kernel
theorem dX12_gives_66 : decode cX12_gives 66 = .ok (.iaload, 1) := by decide +kernel
theorem dX12_gives_67 : decode cX12_gives 67 = .ok (.iadd, 1) := by decide +kernel
theorem dX12_gives_68 : decode cX12_gives 68 = .ok (.iastore, 1) := by decide +kernel
theorem dX12_gives_69 : decode cX12_gives 69 = .ok (.aload_n 0, 1) := by decide +kernel
theorem dX12_gives_70 : decode cX12_gives 70 = .ok (.getfield 7, 3) := by decide +kernel
theorem dX12_gives_73 : decode cX12_gives 73 = .ok (.sipush 144, 3) := by decide +kernel
theorem dX12_gives_76 : decode cX12_gives 76 = .ok (.iload_n 1, 1) := by decide +kernel
theorem dX12_gives_77 : decode cX12_gives 77 = .ok (.iadd, 1) := by decide +kernel
theorem dX12_gives_78 : decode cX12_gives 78 = .ok (.iload_n 2, 1) := by decide +kernel
theorem dX12_gives_79 : decode cX12_gives 79 = .ok (.iastore, 1) := by decide +kernel
theorem dX12_gives_80 : decode cX12_gives 80 = .ok (.return_, 1) := by decide +kernel
set_option maxRecDepth 20000 in
set_option maxHeartbeats 4000000 in
theorem m_gives (E : xE) (l : Launch) (a : Nat → Nat) (cd : Cd) (hG : Good cd) (kf : Int32) (jn js jq : Lb) (ws : va_W) (hW : WX (okM E a cd kf jn js jq) ws) (i0 : Nat) (w0 : Nat) (hi0 : i0 ≤ 47) (hw0 : w0 ≤ 7) : xV E l yX12_gives cX12_gives 4 0 0 0 [.ref (a 0), .int (nI i0), .int (nI w0)] ws (fun w => WX (okM E a cd kf jn js jq) w ∧ keeps ws w (fun q => q = 1)) := by
  refine xV_start (lv := [(0, .ref (a 0)), (1, .int (nI i0)), (2, .int (nI w0))]) RX12 (by decide) rfl (Nat.le_of_ble_eq_true rfl) rfl (fun p e s m below meth c A C hr hlk hin => ?_)
  have kp0 : keeps ws ws (fun q => q = 1) := keeps_rf
  refine x_aload_n C dX12_gives_0 rfl 0 rfl rfl ?_
  obtain ⟨_, k1, n2, n4, n6, v8, v9, v10, n11, n13, n15, n17, v19, v20, v21, v22, n23, n25, bn3, bn5, bn7, bn12, bn14, bn16, bn18, bn24, bn26, rfl⟩ := hW 0 _ rfl
  refine x_get C (ci := 11) (k := 0) 0 k1 rfl in_X12 (by decide) w_1118 rfl dX12_gives_1 rfl ?_
  refine x_sipush C (v := 144) dX12_gives_4 (by decide) rfl ?_
  refine x_iload_n C dX12_gives_7 rfl 1 rfl rfl ?_
  refine x_iadd C (v := (nI (144 + i0))) dX12_gives_8 (nI_add 144 i0) rfl ?_
  obtain ⟨_, k27, f28, pf29, rfl⟩ := hW 1 _ rfl
  obtain ⟨n30, hn31, en32⟩ := NB_own (j := i0) pf29 (by omega)
  refine x_ialk C (v := nI n30) (144 + i0) (nI_clamp (by omega)) (nI_pos (by omega)) (by omega) 1 k27 en32 dX12_gives_9 rfl ?_
  refine x_istore_n C (lv' := [(3, .int (nI n30)), (0, .ref (a 0)), (1, .int (nI i0)), (2, .int (nI w0))]) dX12_gives_10 rfl (by decide) rfl rfl ?_
  refine x_aload_n C dX12_gives_11 rfl 1 rfl rfl ?_
  refine x_get C (ci := 11) (k := 0) 0 k1 rfl in_X12 (by decide) w_1118 rfl dX12_gives_12 rfl ?_
  refine x_sipush C (v := 312) dX12_gives_15 (by decide) rfl ?_
  refine x_iload_n C dX12_gives_18 rfl 0 rfl rfl ?_
  refine x_iadd C (v := (nI (312 + n30))) dX12_gives_19 (nI_add 312 n30) rfl ?_
  refine x_aload_n C dX12_gives_20 rfl 1 rfl rfl ?_
  refine x_get C (ci := 11) (k := 0) 0 k1 rfl in_X12 (by decide) w_1118 rfl dX12_gives_21 rfl ?_
  refine x_sipush C (v := 312) dX12_gives_24 (by decide) rfl ?_
  refine x_iload_n C dX12_gives_27 rfl 0 rfl rfl ?_
  refine x_iadd C (v := (nI (312 + n30))) dX12_gives_28 (nI_add 312 n30) rfl ?_
  refine x_iald C (v := (f28 (nI (312 + n30)).toNatClampNeg)) 1 k27 (vp_in_nI (by omega) (by decide)) rfl dX12_gives_29 rfl ?_
  refine x_any (fun v33 => ?_)
  refine x_aload_n C dX12_gives_30 rfl 1 rfl rfl ?_
  refine x_get C (ci := 11) (k := 0) 0 k1 rfl in_X12 (by decide) w_1118 rfl dX12_gives_31 rfl ?_
  refine x_iconst C (v := 0) dX12_gives_34 (by decide) rfl ?_
  refine x_iload_n C dX12_gives_35 rfl 2 rfl rfl ?_
  refine x_iadd C (v := (nI (0 + i0))) dX12_gives_36 (nI_add 0 i0) rfl ?_
  refine x_iald C (v := (f28 (nI (0 + i0)).toNatClampNeg)) 1 k27 (vp_in_nI (by omega) (by decide)) rfl dX12_gives_37 rfl ?_
  refine x_any (fun v34 => ?_)
  refine x_iadd C (v := (v33 + v34)) dX12_gives_38 rfl rfl ?_
  refine x_any (fun v35 => ?_)
  have pf36 : NB jn (upd f28 (312 + n30) v35) := NB_free pf29 (by unfold bd; omega)
  obtain ⟨w37, hw38⟩ : ∃ w : va_W, w = List.set ws 1 (iA E (a 1) 382 (upd f28 (312 + n30) v35)) := ⟨_, rfl⟩
  refine x_iask C (312 + n30) (nI_clamp (by omega)) (nI_pos (by omega)) (by omega) 1 k27 hw38.symm dX12_gives_39 rfl ?_
  have hW39 : WX (okM E a cd kf jn js jq) w37 := by rw [hw38]; exact hW.set (k := 1) rfl ⟨_, pf36, rfl⟩
  have k40 : w37[0]? = some (ob (a 0) 11 [.ref (a 1), .ref (a 2), .ref (a 3), .ref (a 4), .int (nI n2), .int (nI n4), .int (nI n6), .int v8, .int v9, .int v10, .int (nI n11), .int (nI n13), .int (nI n15), .int (nI (cd.2.2.2.2.2)), .ref (a 5), .ref (a 6), .ref (a 7), .ref (a 8), .ref (a 9), .ref (a 10), .ref (a 11), .ref (a 12), .ref (a 13), .ref (a 14), .ref (a 15), .ref (a 16), .ref (a 17), .int (nI n17), .ref (a 18), .ref (a 19), .ref (a 20), .ref (a 21), .int v19, .int v20, .int v21, .int v22, .int (nI n23), .int (nI n25), .ref (a 22), .ref (a 23), .ref (a 24), .ref (a 25), .ref (a 26), .ref (a 27), .ref (a 28), .ref (a 29), .ref (a 30), .int kf]) := by rw [hw38]; exact set_ne k1 (by decide)
  have k41 : w37[1]? = some (iA E (a 1) 382 (upd f28 (312 + n30) v35)) := by rw [hw38]; exact set_eq k27
  have kp42 := keeps_set kp0 hw38 (by first | exact rfl | decide | omega | (dsimp only; omega))
  refine x_aload_n C dX12_gives_40 rfl 1 rfl rfl ?_
  refine x_get C (ci := 11) (k := 0) 0 k40 rfl in_X12 (by decide) w_1118 rfl dX12_gives_41 rfl ?_
  refine x_sipush C (v := 304) dX12_gives_44 (by decide) rfl ?_
  refine x_iload_n C dX12_gives_47 rfl 3 rfl rfl ?_
  refine x_iadd C (v := (nI (304 + w0))) dX12_gives_48 (nI_add 304 w0) rfl ?_
  refine x_aload_n C dX12_gives_49 rfl 1 rfl rfl ?_
  refine x_get C (ci := 11) (k := 0) 0 k40 rfl in_X12 (by decide) w_1118 rfl dX12_gives_50 rfl ?_
  refine x_sipush C (v := 304) dX12_gives_53 (by decide) rfl ?_
  refine x_iload_n C dX12_gives_56 rfl 3 rfl rfl ?_
  refine x_iadd C (v := (nI (304 + w0))) dX12_gives_57 (nI_add 304 w0) rfl ?_
  refine x_iald C (v := ((upd f28 (312 + n30) v35) (nI (304 + w0)).toNatClampNeg)) 1 k41 (vp_in_nI (by omega) (by decide)) rfl dX12_gives_58 rfl ?_
  refine x_any (fun v43 => ?_)
  refine x_aload_n C dX12_gives_59 rfl 1 rfl rfl ?_
  refine x_get C (ci := 11) (k := 0) 0 k40 rfl in_X12 (by decide) w_1118 rfl dX12_gives_60 rfl ?_
  refine x_iconst C (v := 0) dX12_gives_63 (by decide) rfl ?_
  refine x_iload_n C dX12_gives_64 rfl 2 rfl rfl ?_
  refine x_iadd C (v := (nI (0 + i0))) dX12_gives_65 (nI_add 0 i0) rfl ?_
  refine x_iald C (v := ((upd f28 (312 + n30) v35) (nI (0 + i0)).toNatClampNeg)) 1 k41 (vp_in_nI (by omega) (by decide)) rfl dX12_gives_66 rfl ?_
  refine x_any (fun v44 => ?_)
  refine x_iadd C (v := (v43 + v44)) dX12_gives_67 rfl rfl ?_
  refine x_any (fun v45 => ?_)
  have pf46 : NB jn (upd (upd f28 (312 + n30) v35) (304 + w0) v45) := NB_free pf36 (by unfold bd; omega)
  obtain ⟨w47, hw48⟩ : ∃ w : va_W, w = List.set w37 1 (iA E (a 1) 382 (upd (upd f28 (312 + n30) v35) (304 + w0) v45)) := ⟨_, rfl⟩
  refine x_iask C (304 + w0) (nI_clamp (by omega)) (nI_pos (by omega)) (by omega) 1 k41 hw48.symm dX12_gives_68 rfl ?_
  have hW49 : WX (okM E a cd kf jn js jq) w47 := by rw [hw48]; exact hW39.set (k := 1) rfl ⟨_, pf46, rfl⟩
  have k50 : w47[0]? = some (ob (a 0) 11 [.ref (a 1), .ref (a 2), .ref (a 3), .ref (a 4), .int (nI n2), .int (nI n4), .int (nI n6), .int v8, .int v9, .int v10, .int (nI n11), .int (nI n13), .int (nI n15), .int (nI (cd.2.2.2.2.2)), .ref (a 5), .ref (a 6), .ref (a 7), .ref (a 8), .ref (a 9), .ref (a 10), .ref (a 11), .ref (a 12), .ref (a 13), .ref (a 14), .ref (a 15), .ref (a 16), .ref (a 17), .int (nI n17), .ref (a 18), .ref (a 19), .ref (a 20), .ref (a 21), .int v19, .int v20, .int v21, .int v22, .int (nI n23), .int (nI n25), .ref (a 22), .ref (a 23), .ref (a 24), .ref (a 25), .ref (a 26), .ref (a 27), .ref (a 28), .ref (a 29), .ref (a 30), .int kf]) := by rw [hw48]; exact set_ne k40 (by decide)
  have k51 : w47[1]? = some (iA E (a 1) 382 (upd (upd f28 (312 + n30) v35) (304 + w0) v45)) := by rw [hw48]; exact set_eq k41
  have kp52 := keeps_set kp42 hw48 (by first | exact rfl | decide | omega | (dsimp only; omega))
  refine x_aload_n C dX12_gives_69 rfl 1 rfl rfl ?_
  refine x_get C (ci := 11) (k := 0) 0 k50 rfl in_X12 (by decide) w_1118 rfl dX12_gives_70 rfl ?_
  refine x_sipush C (v := 144) dX12_gives_73 (by decide) rfl ?_
  refine x_iload_n C dX12_gives_76 rfl 2 rfl rfl ?_
  refine x_iadd C (v := (nI (144 + i0))) dX12_gives_77 (nI_add 144 i0) rfl ?_
  refine x_iload_n C dX12_gives_78 rfl 3 rfl rfl ?_
  have pf53 : NB jn (upd (upd (upd f28 (312 + n30) v35) (304 + w0) v45) (144 + i0) (nI w0)) := NB_put_own (j := i0) pf46 (by omega) (by omega)
  obtain ⟨w54, hw55⟩ : ∃ w : va_W, w = List.set w47 1 (iA E (a 1) 382 (upd (upd (upd f28 (312 + n30) v35) (304 + w0) v45) (144 + i0) (nI w0))) := ⟨_, rfl⟩
  refine x_iask C (144 + i0) (nI_clamp (by omega)) (nI_pos (by omega)) (by omega) 1 k51 hw55.symm dX12_gives_79 rfl ?_
  have hW56 : WX (okM E a cd kf jn js jq) w54 := by rw [hw55]; exact hW49.set (k := 1) rfl ⟨_, pf53, rfl⟩
  have k57 : w54[0]? = some (ob (a 0) 11 [.ref (a 1), .ref (a 2), .ref (a 3), .ref (a 4), .int (nI n2), .int (nI n4), .int (nI n6), .int v8, .int v9, .int v10, .int (nI n11), .int (nI n13), .int (nI n15), .int (nI (cd.2.2.2.2.2)), .ref (a 5), .ref (a 6), .ref (a 7), .ref (a 8), .ref (a 9), .ref (a 10), .ref (a 11), .ref (a 12), .ref (a 13), .ref (a 14), .ref (a 15), .ref (a 16), .ref (a 17), .int (nI n17), .ref (a 18), .ref (a 19), .ref (a 20), .ref (a 21), .int v19, .int v20, .int v21, .int v22, .int (nI n23), .int (nI n25), .ref (a 22), .ref (a 23), .ref (a 24), .ref (a 25), .ref (a 26), .ref (a 27), .ref (a 28), .ref (a 29), .ref (a 30), .int kf]) := by rw [hw55]; exact set_ne k50 (by decide)
  have k58 : w54[1]? = some (iA E (a 1) 382 (upd (upd (upd f28 (312 + n30) v35) (304 + w0) v45) (144 + i0) (nI w0))) := by rw [hw55]; exact set_eq k51
  have kp59 := keeps_set kp52 hw55 (by first | exact rfl | decide | omega | (dsimp only; omega))
  exact x_vret C hr hlk dX12_gives_80 ⟨hW56, kp59⟩
theorem dX12_breaks_0 : decode cX12_breaks 0 = .ok (.aload_n 0, 1) := by decide +kernel
theorem dX12_breaks_1 : decode cX12_breaks 1 = .ok (.getfield 7, 3) := by decide +kernel
theorem dX12_breaks_4 : decode cX12_breaks 4 = .ok (.sipush 144, 3) := by decide +kernel
theorem dX12_breaks_7 : decode cX12_breaks 7 = .ok (.iload_n 1, 1) := by decide +kernel
theorem dX12_breaks_8 : decode cX12_breaks 8 = .ok (.iadd, 1) := by decide +kernel
theorem dX12_breaks_9 : decode cX12_breaks 9 = .ok (.iaload, 1) := by decide +kernel
theorem dX12_breaks_10 : decode cX12_breaks 10 = .ok (.istore_n 2, 1) := by decide +kernel
theorem dX12_breaks_11 : decode cX12_breaks 11 = .ok (.aload_n 0, 1) := by decide +kernel
theorem dX12_breaks_12 : decode cX12_breaks 12 = .ok (.getfield 7, 3) := by decide +kernel
theorem dX12_breaks_15 : decode cX12_breaks 15 = .ok (.sipush 288, 3) := by decide +kernel
theorem dX12_breaks_18 : decode cX12_breaks 18 = .ok (.iload_n 2, 1) := by decide +kernel
theorem dX12_breaks_19 : decode cX12_breaks 19 = .ok (.iadd, 1) := by decide +kernel
theorem dX12_breaks_20 : decode cX12_breaks 20 = .ok (.ldc_w 271, 3) := by decide +kernel
theorem dX12_breaks_23 : decode cX12_breaks 23 = .ok (.aload_n 0, 1) := by decide +kernel
theorem dX12_breaks_24 : decode cX12_breaks 24 = .ok (.getfield 7, 3) := by decide +kernel
theorem dX12_breaks_27 : decode cX12_breaks 27 = .ok (.sipush 288, 3) := by decide +kernel
theorem dX12_breaks_30 : decode cX12_breaks 30 = .ok (.iload_n 2, 1) := by decide +kernel
theorem dX12_breaks_31 : decode cX12_breaks 31 = .ok (.iadd, 1) := by decide +kernel
theorem dX12_breaks_32 : decode cX12_breaks 32 = .ok (.iaload, 1) := by decide +kernel
theorem dX12_breaks_33 : decode cX12_breaks 33 = .ok (.aload_n 0, 1) := by decide +kernel
theorem dX12_breaks_34 : decode cX12_breaks 34 = .ok (.getfield 7, 3) := by decide +kernel
theorem dX12_breaks_37 : decode cX12_breaks 37 = .ok (.iconst 0, 1) := by decide +kernel
theorem dX12_breaks_38 : decode cX12_breaks 38 = .ok (.iload_n 1, 1) := by decide +kernel
theorem dX12_breaks_39 : decode cX12_breaks 39 = .ok (.iadd, 1) := by decide +kernel
theorem dX12_breaks_40 : decode cX12_breaks 40 = .ok (.iaload, 1) := by decide +kernel
theorem dX12_breaks_41 : decode cX12_breaks 41 = .ok (.iadd, 1) := by decide +kernel
theorem dX12_breaks_42 : decode cX12_breaks 42 = .ok (.invokestatic 272, 3) := by decide +kernel
theorem dX12_breaks_45 : decode cX12_breaks 45 = .ok (.iastore, 1) := by decide +kernel
theorem dX12_breaks_46 : decode cX12_breaks 46 = .ok (.aload_n 0, 1) := by decide +kernel
theorem dX12_breaks_47 : decode cX12_breaks 47 = .ok (.getfield 7, 3) := by decide +kernel
theorem dX12_breaks_50 : decode cX12_breaks 50 = .ok (.sipush 240, 3) := by decide +kernel
theorem dX12_breaks_53 : decode cX12_breaks 53 = .ok (.iload_n 1, 1) := by decide +kernel
theorem dX12_breaks_54 : decode cX12_breaks 54 = .ok (.iadd, 1) := by decide +kernel
theorem dX12_breaks_55 : decode cX12_breaks 55 = .ok (.iconst 1, 1) := by decide +kernel
theorem dX12_breaks_56 : decode cX12_breaks 56 = .ok (.iastore, 1) := by decide +kernel
theorem dX12_breaks_57 : decode cX12_breaks 57 = .ok (.return_, 1) := by decide +kernel
set_option maxRecDepth 20000 in
set_option maxHeartbeats 4000000 in
theorem m_breaks (E : xE) (l : Launch) (a : Nat → Nat) (cd : Cd) (hG : Good cd) (kf : Int32) (jn js jq : Lb) (ws : va_W) (hW : WX (okM E a cd kf jn js jq) ws) (i0 : Nat) (hi0 : i0 ≤ 47) : xV E l yX12_breaks cX12_breaks 3 1 0 0 [.ref (a 0), .int (nI i0)] ws (fun w => WX (okM E a cd kf jn js jq) w ∧ keeps ws w (fun q => q = 1)) := by
  refine xV_start (lv := [(0, .ref (a 0)), (1, .int (nI i0))]) RX12 (by decide) rfl (Nat.le_of_ble_eq_true rfl) rfl (fun p e s m below meth c A C hr hlk hin => ?_)
  have kp0 : keeps ws ws (fun q => q = 1) := keeps_rf
  refine x_aload_n C dX12_breaks_0 rfl 0 rfl rfl ?_
  obtain ⟨_, k1, n2, n4, n6, v8, v9, v10, n11, n13, n15, n17, v19, v20, v21, v22, n23, n25, bn3, bn5, bn7, bn12, bn14, bn16, bn18, bn24, bn26, rfl⟩ := hW 0 _ rfl
  refine x_get C (ci := 11) (k := 0) 0 k1 rfl in_X12 (by decide) w_1118 rfl dX12_breaks_1 rfl ?_
  refine x_sipush C (v := 144) dX12_breaks_4 (by decide) rfl ?_
  refine x_iload_n C dX12_breaks_7 rfl 1 rfl rfl ?_
  refine x_iadd C (v := (nI (144 + i0))) dX12_breaks_8 (nI_add 144 i0) rfl ?_
  obtain ⟨_, k27, f28, pf29, rfl⟩ := hW 1 _ rfl
  obtain ⟨n30, hn31, en32⟩ := NB_own (j := i0) pf29 (by omega)
  refine x_ialk C (v := nI n30) (144 + i0) (nI_clamp (by omega)) (nI_pos (by omega)) (by omega) 1 k27 en32 dX12_breaks_9 rfl ?_
  refine x_istore_n C (lv' := [(2, .int (nI n30)), (0, .ref (a 0)), (1, .int (nI i0))]) dX12_breaks_10 rfl (by decide) rfl rfl ?_
  refine x_aload_n C dX12_breaks_11 rfl 1 rfl rfl ?_
  refine x_get C (ci := 11) (k := 0) 0 k1 rfl in_X12 (by decide) w_1118 rfl dX12_breaks_12 rfl ?_
  refine x_sipush C (v := 288) dX12_breaks_15 (by decide) rfl ?_
  refine x_iload_n C dX12_breaks_18 rfl 0 rfl rfl ?_
  refine x_iadd C (v := (nI (288 + n30))) dX12_breaks_19 (nI_add 288 n30) rfl ?_
  refine x_ldcw C w_1478 dX12_breaks_20 rfl ?_
  refine x_aload_n C dX12_breaks_23 rfl 1 rfl rfl ?_
  refine x_get C (ci := 11) (k := 0) 0 k1 rfl in_X12 (by decide) w_1118 rfl dX12_breaks_24 rfl ?_
  refine x_sipush C (v := 288) dX12_breaks_27 (by decide) rfl ?_
  refine x_iload_n C dX12_breaks_30 rfl 0 rfl rfl ?_
  refine x_iadd C (v := (nI (288 + n30))) dX12_breaks_31 (nI_add 288 n30) rfl ?_
  refine x_iald C (v := (f28 (nI (288 + n30)).toNatClampNeg)) 1 k27 (vp_in_nI (by omega) (by decide)) rfl dX12_breaks_32 rfl ?_
  refine x_any (fun v33 => ?_)
  refine x_aload_n C dX12_breaks_33 rfl 1 rfl rfl ?_
  refine x_get C (ci := 11) (k := 0) 0 k1 rfl in_X12 (by decide) w_1118 rfl dX12_breaks_34 rfl ?_
  refine x_iconst C (v := 0) dX12_breaks_37 (by decide) rfl ?_
  refine x_iload_n C dX12_breaks_38 rfl 2 rfl rfl ?_
  refine x_iadd C (v := (nI (0 + i0))) dX12_breaks_39 (nI_add 0 i0) rfl ?_
  refine x_iald C (v := (f28 (nI (0 + i0)).toNatClampNeg)) 1 k27 (vp_in_nI (by omega) (by decide)) rfl dX12_breaks_40 rfl ?_
  refine x_any (fun v34 => ?_)
  refine x_iadd C (v := (v33 + v34)) dX12_breaks_41 rfl rfl ?_
  refine x_any (fun v35 => ?_)
  refine x_si C (As := [.int 999999, .int v35]) (rest := [.int (nI (288 + n30)), .ref (a 1)]) (m_min E l a cd hG kf jn js jq ws hW (999999 : Int32) v35) mf_X12_min w_1479 rfl rfl (Nat.le_of_ble_eq_true rfl) ⟨(Nat.le_of_ble_eq_true rfl), (Nat.le_of_ble_eq_true rfl)⟩ ⟨(Nat.le_of_ble_eq_true rfl), (Nat.le_of_ble_eq_true rfl)⟩ dX12_breaks_42 rfl (fun r37 w38 h36 => ?_)
  have hW39 := h36
  refine x_ws hW39 ?_
  have pf40 : NB jn (upd f28 (288 + n30) r37) := NB_free pf29 (by unfold bd; omega)
  obtain ⟨w41, hw42⟩ : ∃ w : va_W, w = List.set ws 1 (iA E (a 1) 382 (upd f28 (288 + n30) r37)) := ⟨_, rfl⟩
  refine x_iask C (288 + n30) (nI_clamp (by omega)) (nI_pos (by omega)) (by omega) 1 k27 hw42.symm dX12_breaks_45 rfl ?_
  have hW43 : WX (okM E a cd kf jn js jq) w41 := by rw [hw42]; exact hW.set (k := 1) rfl ⟨_, pf40, rfl⟩
  have k44 : w41[0]? = some (ob (a 0) 11 [.ref (a 1), .ref (a 2), .ref (a 3), .ref (a 4), .int (nI n2), .int (nI n4), .int (nI n6), .int v8, .int v9, .int v10, .int (nI n11), .int (nI n13), .int (nI n15), .int (nI (cd.2.2.2.2.2)), .ref (a 5), .ref (a 6), .ref (a 7), .ref (a 8), .ref (a 9), .ref (a 10), .ref (a 11), .ref (a 12), .ref (a 13), .ref (a 14), .ref (a 15), .ref (a 16), .ref (a 17), .int (nI n17), .ref (a 18), .ref (a 19), .ref (a 20), .ref (a 21), .int v19, .int v20, .int v21, .int v22, .int (nI n23), .int (nI n25), .ref (a 22), .ref (a 23), .ref (a 24), .ref (a 25), .ref (a 26), .ref (a 27), .ref (a 28), .ref (a 29), .ref (a 30), .int kf]) := by rw [hw42]; exact set_ne k1 (by decide)
  have k45 : w41[1]? = some (iA E (a 1) 382 (upd f28 (288 + n30) r37)) := by rw [hw42]; exact set_eq k27
  have kp46 := keeps_set kp0 hw42 (by first | exact rfl | decide | omega | (dsimp only; omega))
  refine x_aload_n C dX12_breaks_46 rfl 1 rfl rfl ?_
  refine x_get C (ci := 11) (k := 0) 0 k44 rfl in_X12 (by decide) w_1118 rfl dX12_breaks_47 rfl ?_
  refine x_sipush C (v := 240) dX12_breaks_50 (by decide) rfl ?_
  refine x_iload_n C dX12_breaks_53 rfl 2 rfl rfl ?_
  refine x_iadd C (v := (nI (240 + i0))) dX12_breaks_54 (nI_add 240 i0) rfl ?_
  refine x_iconst C (v := 1) dX12_breaks_55 (by decide) rfl ?_
  have pf47 : NB jn (upd (upd f28 (288 + n30) r37) (240 + i0) (1 : Int32)) := NB_free pf40 (by unfold bd; omega)
  obtain ⟨w48, hw49⟩ : ∃ w : va_W, w = List.set w41 1 (iA E (a 1) 382 (upd (upd f28 (288 + n30) r37) (240 + i0) (1 : Int32))) := ⟨_, rfl⟩
  refine x_iask C (240 + i0) (nI_clamp (by omega)) (nI_pos (by omega)) (by omega) 1 k45 hw49.symm dX12_breaks_56 rfl ?_
  have hW50 : WX (okM E a cd kf jn js jq) w48 := by rw [hw49]; exact hW43.set (k := 1) rfl ⟨_, pf47, rfl⟩
  have k51 : w48[0]? = some (ob (a 0) 11 [.ref (a 1), .ref (a 2), .ref (a 3), .ref (a 4), .int (nI n2), .int (nI n4), .int (nI n6), .int v8, .int v9, .int v10, .int (nI n11), .int (nI n13), .int (nI n15), .int (nI (cd.2.2.2.2.2)), .ref (a 5), .ref (a 6), .ref (a 7), .ref (a 8), .ref (a 9), .ref (a 10), .ref (a 11), .ref (a 12), .ref (a 13), .ref (a 14), .ref (a 15), .ref (a 16), .ref (a 17), .int (nI n17), .ref (a 18), .ref (a 19), .ref (a 20), .ref (a 21), .int v19, .int v20, .int v21, .int v22, .int (nI n23), .int (nI n25), .ref (a 22), .ref (a 23), .ref (a 24), .ref (a 25), .ref (a 26), .ref (a 27), .ref (a 28), .ref (a 29), .ref (a 30), .int kf]) := by rw [hw49]; exact set_ne k44 (by decide)
  have k52 : w48[1]? = some (iA E (a 1) 382 (upd (upd f28 (288 + n30) r37) (240 + i0) (1 : Int32))) := by rw [hw49]; exact set_eq k45
  have kp53 := keeps_set kp46 hw49 (by first | exact rfl | decide | omega | (dsimp only; omega))
  exact x_vret C hr hlk dX12_breaks_57 ⟨hW50, kp53⟩
theorem dX12_worksBy_0 : decode cX12_worksBy 0 = .ok (.aload_n 0, 1) := by decide +kernel
theorem dX12_worksBy_1 : decode cX12_worksBy 1 = .ok (.iload_n 1, 1) := by decide +kernel
theorem dX12_worksBy_2 : decode cX12_worksBy 2 = .ok (.iload_n 2, 1) := by decide +kernel
theorem dX12_worksBy_3 : decode cX12_worksBy 3 = .ok (.invokevirtual 275, 3) := by decide +kernel
theorem dX12_worksBy_6 : decode cX12_worksBy 6 = .ok (.istore_n 3, 1) := by decide +kernel
theorem dX12_worksBy_7 : decode cX12_worksBy 7 = .ok (.aload_n 0, 1) := by decide +kernel
theorem dX12_worksBy_8 : decode cX12_worksBy 8 = .ok (.iload_n 1, 1) := by decide +kernel
theorem dX12_worksBy_9 : decode cX12_worksBy 9 = .ok (.invokevirtual 278, 3) := by decide +kernel
theorem dX12_worksBy_12 : decode cX12_worksBy 12 = .ok (.aload_n 0, 1) := by decide +kernel
theorem dX12_worksBy_13 : decode cX12_worksBy 13 = .ok (.iload_n 2, 1) := by decide +kernel
theorem dX12_worksBy_14 : decode cX12_worksBy 14 = .ok (.invokevirtual 265, 3) := by decide +kernel
theorem dX12_worksBy_17 : decode cX12_worksBy 17 = .ok (.ifCond .eq 4, 3) := by decide +kernel
theorem dX12_worksBy_20 : decode cX12_worksBy 20 = .ok (.return_, 1) := by decide +kernel
theorem dX12_worksBy_21 : decode cX12_worksBy 21 = .ok (.aload_n 0, 1) := by decide +kernel
theorem dX12_worksBy_22 : decode cX12_worksBy 22 = .ok (.getfield 7, 3) := by decide +kernel
theorem dX12_worksBy_25 : decode cX12_worksBy 25 = .ok (.sipush 346, 3) := by decide +kernel
theorem dX12_worksBy_28 : decode cX12_worksBy 28 = .ok (.iload_n 2, 1) := by decide +kernel
theorem dX12_worksBy_29 : decode cX12_worksBy 29 = .ok (.iadd, 1) := by decide +kernel
theorem dX12_worksBy_30 : decode cX12_worksBy 30 = .ok (.aload_n 0, 1) := by decide +kernel
theorem dX12_worksBy_31 : decode cX12_worksBy 31 = .ok (.getfield 7, 3) := by decide +kernel
theorem dX12_worksBy_34 : decode cX12_worksBy 34 = .ok (.sipush 338, 3) := by decide +kernel
theorem dX12_worksBy_37 : decode cX12_worksBy 37 = .ok (.iload_n 2, 1) := by decide +kernel
theorem dX12_worksBy_38 : decode cX12_worksBy 38 = .ok (.iadd, 1) := by decide +kernel
theorem dX12_worksBy_39 : decode cX12_worksBy 39 = .ok (.iaload, 1) := by decide +kernel
theorem dX12_worksBy_40 : decode cX12_worksBy 40 = .ok (.aload_n 0, 1) := by decide +kernel
theorem dX12_worksBy_41 : decode cX12_worksBy 41 = .ok (.getfield 7, 3) := by decide +kernel
theorem dX12_worksBy_44 : decode cX12_worksBy 44 = .ok (.sipush 346, 3) := by decide +kernel
theorem dX12_worksBy_47 : decode cX12_worksBy 47 = .ok (.iload_n 2, 1) := by decide +kernel
theorem dX12_worksBy_48 : decode cX12_worksBy 48 = .ok (.iadd, 1) := by decide +kernel
theorem dX12_worksBy_49 : decode cX12_worksBy 49 = .ok (.iaload, 1) := by decide +kernel
theorem dX12_worksBy_50 : decode cX12_worksBy 50 = .ok (.iload_n 3, 1) := by decide +kernel
theorem dX12_worksBy_51 : decode cX12_worksBy 51 = .ok (.iadd, 1) := by decide +kernel
theorem dX12_worksBy_52 : decode cX12_worksBy 52 = .ok (.invokestatic 272, 3) := by decide +kernel
theorem dX12_worksBy_55 : decode cX12_worksBy 55 = .ok (.iastore, 1) := by decide +kernel
theorem dX12_worksBy_56 : decode cX12_worksBy 56 = .ok (.aload_n 0, 1) := by decide +kernel
theorem dX12_worksBy_57 : decode cX12_worksBy 57 = .ok (.iload_n 2, 1) := by decide +kernel
theorem dX12_worksBy_58 : decode cX12_worksBy 58 = .ok (.invokevirtual 265, 3) := by decide +kernel
theorem dX12_worksBy_61 : decode cX12_worksBy 61 = .ok (.ifCond .eq 21, 3) := by decide +kernel
theorem dX12_worksBy_64 : decode cX12_worksBy 64 = .ok (.aload_n 0, 1) := by decide +kernel
theorem dX12_worksBy_65 : decode cX12_worksBy 65 = .ok (.getfield 7, 3) := by decide +kernel
theorem dX12_worksBy_68 : decode cX12_worksBy 68 = .ok (.sipush 370, 3) := by decide +kernel
theorem dX12_worksBy_71 : decode cX12_worksBy 71 = .ok (.iload_n 2, 1) := by decide +kernel
theorem dX12_worksBy_72 : decode cX12_worksBy 72 = .ok (.iadd, 1) := by decide +kernel
theorem dX12_worksBy_73 : decode cX12_worksBy 73 = .ok (.aload_n 0, 1) := by decide +kernel
theorem dX12_worksBy_74 : decode cX12_worksBy 74 = .ok (.getfield 7, 3) := by decide +kernel
theorem dX12_worksBy_77 : decode cX12_worksBy 77 = .ok (.sipush 379, 3) := by decide +kernel
theorem dX12_worksBy_80 : decode cX12_worksBy 80 = .ok (.iaload, 1) := by decide +kernel
theorem dX12_worksBy_81 : decode cX12_worksBy 81 = .ok (.iastore, 1) := by decide +kernel
theorem dX12_worksBy_82 : decode cX12_worksBy 82 = .ok (.return_, 1) := by decide +kernel
set_option maxRecDepth 20000 in
set_option maxHeartbeats 4000000 in
theorem m_worksBy (E : xE) (l : Launch) (a : Nat → Nat) (cd : Cd) (hG : Good cd) (kf : Int32) (jn js jq : Lb) (ws : va_W) (hW : WX (okM E a cd kf jn js jq) ws) (i0 : Nat) (w0 : Nat) (hi0 : i0 ≤ 47) (hw0 : w0 ≤ 7) : xV E l yX12_worksBy cX12_worksBy 4 4 0 0 [.ref (a 0), .int (nI i0), .int (nI w0)] ws (fun w => WX (okM E a cd kf jn js jq) w ∧ keeps ws w (fun q => q = 1 ∨ q = 16 ∨ q = 17)) := by
  refine xV_start (lv := [(0, .ref (a 0)), (1, .int (nI i0)), (2, .int (nI w0))]) RX12 (by decide) rfl (Nat.le_of_ble_eq_true rfl) rfl (fun p e s m below meth c A C hr hlk hin => ?_)
  have kp0 : keeps ws ws (fun q => q = 1 ∨ q = 16 ∨ q = 17) := keeps_rf
  obtain ⟨_, k1, f2, pf3, rfl⟩ := hW 1 _ rfl
  refine x_aload_n C dX12_worksBy_0 rfl 0 rfl rfl ?_
  refine x_iload_n C dX12_worksBy_1 rfl 1 rfl rfl ?_
  refine x_iload_n C dX12_worksBy_2 rfl 2 rfl rfl ?_
  obtain ⟨_, k4, n5, n7, n9, v11, v12, v13, n14, n16, n18, n20, v22, v23, v24, v25, n26, n28, bn6, bn8, bn10, bn15, bn17, bn19, bn21, bn27, bn29, rfl⟩ := hW 0 _ rfl
  refine x_vi C (As := [.int (nI i0), .int (nI w0)]) (rest := []) (m_worthFor E l a cd hG kf jn js jq ws hW i0 ((nI w0)) (by omega) f2 k1) mf_X12_worthFor w_1451 0 k4 rfl rfl rfl (Nat.le_of_ble_eq_true rfl) ⟨(Nat.le_of_ble_eq_true rfl), (Nat.le_of_ble_eq_true rfl)⟩ ⟨(Nat.le_of_ble_eq_true rfl), (Nat.le_of_ble_eq_true rfl)⟩ dX12_worksBy_3 rfl (fun r31 w32 h30 => ?_)
  obtain ⟨hW33, kq34, ⟨m36, bm37, e35⟩, x38⟩ := h30
  refine x_top e35 ?_
  have k39 : w32[1]? = some (iA E (a 1) 382 f2) := keeps_at kq34 k1 (by first | decide | omega | (dsimp only; omega))
  have k40 : w32[0]? = some (ob (a 0) 11 [.ref (a 1), .ref (a 2), .ref (a 3), .ref (a 4), .int (nI n5), .int (nI n7), .int (nI n9), .int v11, .int v12, .int v13, .int (nI n14), .int (nI n16), .int (nI n18), .int (nI (cd.2.2.2.2.2)), .ref (a 5), .ref (a 6), .ref (a 7), .ref (a 8), .ref (a 9), .ref (a 10), .ref (a 11), .ref (a 12), .ref (a 13), .ref (a 14), .ref (a 15), .ref (a 16), .ref (a 17), .int (nI n20), .ref (a 18), .ref (a 19), .ref (a 20), .ref (a 21), .int v22, .int v23, .int v24, .int v25, .int (nI n26), .int (nI n28), .ref (a 22), .ref (a 23), .ref (a 24), .ref (a 25), .ref (a 26), .ref (a 27), .ref (a 28), .ref (a 29), .ref (a 30), .int kf]) := keeps_at kq34 k4 (by first | decide | omega | (dsimp only; omega))
  have kp41 := keeps_tr kp0 kq34 (fun q hq => by first | omega | (dsimp only at *; omega))
  refine x_istore_n C (lv' := [(3, .int (nI m36)), (0, .ref (a 0)), (1, .int (nI i0)), (2, .int (nI w0))]) dX12_worksBy_6 rfl (by decide) rfl rfl ?_
  refine x_aload_n C dX12_worksBy_7 rfl 1 rfl rfl ?_
  refine x_iload_n C dX12_worksBy_8 rfl 2 rfl rfl ?_
  refine x_vv C (As := [.int (nI i0)]) (rest := []) (m_breaks E l a cd hG kf jn js jq w32 hW33 i0 (by omega)) mf_X12_breaks w_1474 0 k40 rfl rfl rfl (Nat.le_of_ble_eq_true rfl) ⟨(Nat.le_of_ble_eq_true rfl), (Nat.le_of_ble_eq_true rfl)⟩ ⟨(Nat.le_of_ble_eq_true rfl), (Nat.le_of_ble_eq_true rfl)⟩ dX12_worksBy_9 rfl (fun w44 h42 => ?_)
  obtain ⟨hW45, kq46⟩ := h42
  have k47 : w44[0]? = some (ob (a 0) 11 [.ref (a 1), .ref (a 2), .ref (a 3), .ref (a 4), .int (nI n5), .int (nI n7), .int (nI n9), .int v11, .int v12, .int v13, .int (nI n14), .int (nI n16), .int (nI n18), .int (nI (cd.2.2.2.2.2)), .ref (a 5), .ref (a 6), .ref (a 7), .ref (a 8), .ref (a 9), .ref (a 10), .ref (a 11), .ref (a 12), .ref (a 13), .ref (a 14), .ref (a 15), .ref (a 16), .ref (a 17), .int (nI n20), .ref (a 18), .ref (a 19), .ref (a 20), .ref (a 21), .int v22, .int v23, .int v24, .int v25, .int (nI n26), .int (nI n28), .ref (a 22), .ref (a 23), .ref (a 24), .ref (a 25), .ref (a 26), .ref (a 27), .ref (a 28), .ref (a 29), .ref (a 30), .int kf]) := keeps_at kq46 k40 (by first | decide | omega | (dsimp only; omega))
  have kp48 := keeps_tr kp41 kq46 (fun q hq => by first | omega | (dsimp only at *; omega))
  refine x_aload_n C dX12_worksBy_12 rfl 1 rfl rfl ?_
  refine x_iload_n C dX12_worksBy_13 rfl 3 rfl rfl ?_
  refine x_vi C (As := [.int (nI w0)]) (rest := []) (m_isDone E l a cd hG kf jn js jq w44 hW45 w0 (by omega)) mf_X12_isDone w_1431 0 k47 rfl rfl rfl (Nat.le_of_ble_eq_true rfl) ⟨(Nat.le_of_ble_eq_true rfl), (Nat.le_of_ble_eq_true rfl)⟩ ⟨(Nat.le_of_ble_eq_true rfl), (Nat.le_of_ble_eq_true rfl)⟩ dX12_worksBy_14 rfl (fun r50 w51 h49 => ?_)
  obtain ⟨hW52, zb53⟩ := h49
  refine x_ws hW52 ?_
  refine x_if_eq C (tgt := 21) dX12_worksBy_17 (by decide) rfl (fun c54 => ?_) (fun c54 => ?_)
  · skip
    refine x_aload_n C dX12_worksBy_21 rfl 1 rfl rfl ?_
    refine x_get C (ci := 11) (k := 0) 0 k47 rfl in_X12 (by decide) w_1118 rfl dX12_worksBy_22 rfl ?_
    refine x_sipush C (v := 346) dX12_worksBy_25 (by decide) rfl ?_
    refine x_iload_n C dX12_worksBy_28 rfl 3 rfl rfl ?_
    refine x_iadd C (v := (nI (346 + w0))) dX12_worksBy_29 (nI_add 346 w0) rfl ?_
    refine x_aload_n C dX12_worksBy_30 rfl 1 rfl rfl ?_
    refine x_get C (ci := 11) (k := 0) 0 k47 rfl in_X12 (by decide) w_1118 rfl dX12_worksBy_31 rfl ?_
    refine x_sipush C (v := 338) dX12_worksBy_34 (by decide) rfl ?_
    refine x_iload_n C dX12_worksBy_37 rfl 3 rfl rfl ?_
    refine x_iadd C (v := (nI (338 + w0))) dX12_worksBy_38 (nI_add 338 w0) rfl ?_
    obtain ⟨_, k55, f56, pf57, rfl⟩ := hW45 1 _ rfl
    refine x_iald C (v := (f56 (nI (338 + w0)).toNatClampNeg)) 1 k55 (vp_in_nI (by omega) (by decide)) rfl dX12_worksBy_39 rfl ?_
    refine x_any (fun v58 => ?_)
    refine x_aload_n C dX12_worksBy_40 rfl 1 rfl rfl ?_
    refine x_get C (ci := 11) (k := 0) 0 k47 rfl in_X12 (by decide) w_1118 rfl dX12_worksBy_41 rfl ?_
    refine x_sipush C (v := 346) dX12_worksBy_44 (by decide) rfl ?_
    refine x_iload_n C dX12_worksBy_47 rfl 3 rfl rfl ?_
    refine x_iadd C (v := (nI (346 + w0))) dX12_worksBy_48 (nI_add 346 w0) rfl ?_
    refine x_iald C (v := (f56 (nI (346 + w0)).toNatClampNeg)) 1 k55 (vp_in_nI (by omega) (by decide)) rfl dX12_worksBy_49 rfl ?_
    refine x_any (fun v59 => ?_)
    refine x_iload_n C dX12_worksBy_50 rfl 0 rfl rfl ?_
    refine x_iadd C (v := (v59 + (nI m36))) dX12_worksBy_51 rfl rfl ?_
    refine x_any (fun v60 => ?_)
    refine x_si C (As := [.int v58, .int v60]) (rest := [.int (nI (346 + w0)), .ref (a 1)]) (m_min E l a cd hG kf jn js jq w44 hW45 v58 v60) mf_X12_min w_1479 rfl rfl (Nat.le_of_ble_eq_true rfl) ⟨(Nat.le_of_ble_eq_true rfl), (Nat.le_of_ble_eq_true rfl)⟩ ⟨(Nat.le_of_ble_eq_true rfl), (Nat.le_of_ble_eq_true rfl)⟩ dX12_worksBy_52 rfl (fun r62 w63 h61 => ?_)
    have hW64 := h61
    refine x_ws hW64 ?_
    have pf65 : NB jn (upd f56 (346 + w0) r62) := NB_free pf57 (by unfold bd; omega)
    obtain ⟨w66, hw67⟩ : ∃ w : va_W, w = List.set w44 1 (iA E (a 1) 382 (upd f56 (346 + w0) r62)) := ⟨_, rfl⟩
    refine x_iask C (346 + w0) (nI_clamp (by omega)) (nI_pos (by omega)) (by omega) 1 k55 hw67.symm dX12_worksBy_55 rfl ?_
    have hW68 : WX (okM E a cd kf jn js jq) w66 := by rw [hw67]; exact hW45.set (k := 1) rfl ⟨_, pf65, rfl⟩
    have k69 : w66[0]? = some (ob (a 0) 11 [.ref (a 1), .ref (a 2), .ref (a 3), .ref (a 4), .int (nI n5), .int (nI n7), .int (nI n9), .int v11, .int v12, .int v13, .int (nI n14), .int (nI n16), .int (nI n18), .int (nI (cd.2.2.2.2.2)), .ref (a 5), .ref (a 6), .ref (a 7), .ref (a 8), .ref (a 9), .ref (a 10), .ref (a 11), .ref (a 12), .ref (a 13), .ref (a 14), .ref (a 15), .ref (a 16), .ref (a 17), .int (nI n20), .ref (a 18), .ref (a 19), .ref (a 20), .ref (a 21), .int v22, .int v23, .int v24, .int v25, .int (nI n26), .int (nI n28), .ref (a 22), .ref (a 23), .ref (a 24), .ref (a 25), .ref (a 26), .ref (a 27), .ref (a 28), .ref (a 29), .ref (a 30), .int kf]) := by rw [hw67]; exact set_ne k47 (by decide)
    have k70 : w66[1]? = some (iA E (a 1) 382 (upd f56 (346 + w0) r62)) := by rw [hw67]; exact set_eq k55
    have kp71 := keeps_set kp48 hw67 (by first | exact rfl | decide | omega | (dsimp only; omega))
    refine x_aload_n C dX12_worksBy_56 rfl 1 rfl rfl ?_
    refine x_iload_n C dX12_worksBy_57 rfl 3 rfl rfl ?_
    refine x_vi C (As := [.int (nI w0)]) (rest := []) (m_isDone E l a cd hG kf jn js jq w66 hW68 w0 (by omega)) mf_X12_isDone w_1431 0 k69 rfl rfl rfl (Nat.le_of_ble_eq_true rfl) ⟨(Nat.le_of_ble_eq_true rfl), (Nat.le_of_ble_eq_true rfl)⟩ ⟨(Nat.le_of_ble_eq_true rfl), (Nat.le_of_ble_eq_true rfl)⟩ dX12_worksBy_58 rfl (fun r73 w74 h72 => ?_)
    obtain ⟨hW75, zb76⟩ := h72
    refine x_ws hW75 ?_
    refine x_if_eq C (tgt := 82) dX12_worksBy_61 (by decide) rfl (fun c77 => ?_) (fun c77 => ?_)
    · skip
      exact x_vret C hr hlk dX12_worksBy_82 ⟨hW68, kp71⟩
    · skip
      refine x_aload_n C dX12_worksBy_64 rfl 1 rfl rfl ?_
      refine x_get C (ci := 11) (k := 0) 0 k69 rfl in_X12 (by decide) w_1118 rfl dX12_worksBy_65 rfl ?_
      refine x_sipush C (v := 370) dX12_worksBy_68 (by decide) rfl ?_
      refine x_iload_n C dX12_worksBy_71 rfl 3 rfl rfl ?_
      refine x_iadd C (v := (nI (370 + w0))) dX12_worksBy_72 (nI_add 370 w0) rfl ?_
      refine x_aload_n C dX12_worksBy_73 rfl 1 rfl rfl ?_
      refine x_get C (ci := 11) (k := 0) 0 k69 rfl in_X12 (by decide) w_1118 rfl dX12_worksBy_74 rfl ?_
      refine x_sipush C (v := 379) dX12_worksBy_77 (by decide) rfl ?_
      obtain ⟨n78, hn79, en80⟩ := NB_day pf65
      refine x_ialk C (v := nI n78) 379 (by decide) (by decide) (by decide) 1 k70 en80 dX12_worksBy_80 rfl ?_
      have pf81 : NB jn (upd (upd f56 (346 + w0) r62) (370 + w0) (nI n78)) := NB_free pf65 (by unfold bd; omega)
      obtain ⟨w82, hw83⟩ : ∃ w : va_W, w = List.set w66 1 (iA E (a 1) 382 (upd (upd f56 (346 + w0) r62) (370 + w0) (nI n78))) := ⟨_, rfl⟩
      refine x_iask C (370 + w0) (nI_clamp (by omega)) (nI_pos (by omega)) (by omega) 1 k70 hw83.symm dX12_worksBy_81 rfl ?_
      have hW84 : WX (okM E a cd kf jn js jq) w82 := by rw [hw83]; exact hW68.set (k := 1) rfl ⟨_, pf81, rfl⟩
      have k85 : w82[0]? = some (ob (a 0) 11 [.ref (a 1), .ref (a 2), .ref (a 3), .ref (a 4), .int (nI n5), .int (nI n7), .int (nI n9), .int v11, .int v12, .int v13, .int (nI n14), .int (nI n16), .int (nI n18), .int (nI (cd.2.2.2.2.2)), .ref (a 5), .ref (a 6), .ref (a 7), .ref (a 8), .ref (a 9), .ref (a 10), .ref (a 11), .ref (a 12), .ref (a 13), .ref (a 14), .ref (a 15), .ref (a 16), .ref (a 17), .int (nI n20), .ref (a 18), .ref (a 19), .ref (a 20), .ref (a 21), .int v22, .int v23, .int v24, .int v25, .int (nI n26), .int (nI n28), .ref (a 22), .ref (a 23), .ref (a 24), .ref (a 25), .ref (a 26), .ref (a 27), .ref (a 28), .ref (a 29), .ref (a 30), .int kf]) := by rw [hw83]; exact set_ne k69 (by decide)
      have k86 : w82[1]? = some (iA E (a 1) 382 (upd (upd f56 (346 + w0) r62) (370 + w0) (nI n78))) := by rw [hw83]; exact set_eq k70
      have kp87 := keeps_set kp71 hw83 (by first | exact rfl | decide | omega | (dsimp only; omega))
      exact x_vret C hr hlk dX12_worksBy_82 ⟨hW84, kp87⟩
  · skip
    exact x_vret C hr hlk dX12_worksBy_20 ⟨hW45, kp48⟩
theorem dX12_broods_0 : decode cX12_broods 0 = .ok (.aload_n 0, 1) := by decide +kernel
theorem dX12_broods_1 : decode cX12_broods 1 = .ok (.iload_n 1, 1) := by decide +kernel
theorem dX12_broods_2 : decode cX12_broods 2 = .ok (.invokevirtual 237, 3) := by decide +kernel
theorem dX12_broods_5 : decode cX12_broods 5 = .ok (.aload_n 0, 1) := by decide +kernel
theorem dX12_broods_6 : decode cX12_broods 6 = .ok (.getfield 7, 3) := by decide +kernel
theorem dX12_broods_9 : decode cX12_broods 9 = .ok (.iconst 0, 1) := by decide +kernel
theorem dX12_broods_10 : decode cX12_broods 10 = .ok (.iload_n 1, 1) := by decide +kernel
theorem dX12_broods_11 : decode cX12_broods 11 = .ok (.iadd, 1) := by decide +kernel
theorem dX12_broods_12 : decode cX12_broods 12 = .ok (.sipush 240, 3) := by decide +kernel
theorem dX12_broods_15 : decode cX12_broods 15 = .ok (.aload_n 0, 1) := by decide +kernel
theorem dX12_broods_16 : decode cX12_broods 16 = .ok (.getfield 7, 3) := by decide +kernel
theorem dX12_broods_19 : decode cX12_broods 19 = .ok (.iconst 0, 1) := by decide +kernel
theorem dX12_broods_20 : decode cX12_broods 20 = .ok (.iload_n 1, 1) := by decide +kernel
theorem dX12_broods_21 : decode cX12_broods 21 = .ok (.iadd, 1) := by decide +kernel
theorem dX12_broods_22 : decode cX12_broods 22 = .ok (.iaload, 1) := by decide +kernel
theorem dX12_broods_23 : decode cX12_broods 23 = .ok (.aload_n 0, 1) := by decide +kernel
theorem dX12_broods_24 : decode cX12_broods 24 = .ok (.bipush 104, 2) := by decide +kernel
theorem dX12_broods_26 : decode cX12_broods 26 = .ok (.bipush 60, 2) := by decide +kernel
theorem dX12_broods_28 : decode cX12_broods 28 = .ok (.invokevirtual 240, 3) := by decide +kernel
theorem dX12_broods_31 : decode cX12_broods 31 = .ok (.iadd, 1) := by decide +kernel
theorem dX12_broods_32 : decode cX12_broods 32 = .ok (.invokestatic 272, 3) := by decide +kernel
theorem dX12_broods_35 : decode cX12_broods 35 = .ok (.iastore, 1) := by decide +kernel
theorem dX12_broods_36 : decode cX12_broods 36 = .ok (.aload_n 0, 1) := by decide +kernel
theorem dX12_broods_37 : decode cX12_broods 37 = .ok (.getfield 7, 3) := by decide +kernel
theorem dX12_broods_40 : decode cX12_broods 40 = .ok (.sipush 192, 3) := by decide +kernel
theorem dX12_broods_43 : decode cX12_broods 43 = .ok (.iload_n 1, 1) := by decide +kernel
theorem dX12_broods_44 : decode cX12_broods 44 = .ok (.iadd, 1) := by decide +kernel
theorem dX12_broods_45 : decode cX12_broods 45 = .ok (.aload_n 0, 1) := by decide +kernel
theorem dX12_broods_46 : decode cX12_broods 46 = .ok (.getfield 7, 3) := by decide +kernel
theorem dX12_broods_49 : decode cX12_broods 49 = .ok (.sipush 192, 3) := by decide +kernel
theorem dX12_broods_52 : decode cX12_broods 52 = .ok (.iload_n 1, 1) := by decide +kernel
theorem dX12_broods_53 : decode cX12_broods 53 = .ok (.iadd, 1) := by decide +kernel
theorem dX12_broods_54 : decode cX12_broods 54 = .ok (.iaload, 1) := by decide +kernel
theorem dX12_broods_55 : decode cX12_broods 55 = .ok (.iconst 1, 1) := by decide +kernel
theorem dX12_broods_56 : decode cX12_broods 56 = .ok (.iadd, 1) := by decide +kernel
theorem dX12_broods_57 : decode cX12_broods 57 = .ok (.iastore, 1) := by decide +kernel
theorem dX12_broods_58 : decode cX12_broods 58 = .ok (.return_, 1) := by decide +kernel
set_option maxRecDepth 20000 in
set_option maxHeartbeats 4000000 in
theorem m_broods (E : xE) (l : Launch) (a : Nat → Nat) (cd : Cd) (hG : Good cd) (kf : Int32) (jn js jq : Lb) (ws : va_W) (hW : WX (okM E a cd kf jn js jq) ws) (i0 : Nat) (hi0 : i0 ≤ 47) : xV E l yX12_broods cX12_broods 2 3 0 0 [.ref (a 0), .int (nI i0)] ws (fun w => WX (okM E a cd kf jn js jq) w ∧ keeps ws w (fun q => q = 1 ∨ q = 16 ∨ q = 17)) := by
  refine xV_start (lv := [(0, .ref (a 0)), (1, .int (nI i0))]) RX12 (by decide) rfl (Nat.le_of_ble_eq_true rfl) rfl (fun p e s m below meth c A C hr hlk hin => ?_)
  have kp0 : keeps ws ws (fun q => q = 1 ∨ q = 16 ∨ q = 17) := keeps_rf
  obtain ⟨_, k1, f2, pf3, rfl⟩ := hW 1 _ rfl
  refine x_aload_n C dX12_broods_0 rfl 0 rfl rfl ?_
  refine x_iload_n C dX12_broods_1 rfl 1 rfl rfl ?_
  obtain ⟨_, k4, n5, n7, n9, v11, v12, v13, n14, n16, n18, n20, v22, v23, v24, v25, n26, n28, bn6, bn8, bn10, bn15, bn17, bn19, bn21, bn27, bn29, rfl⟩ := hW 0 _ rfl
  refine x_vv C (As := [.int (nI i0)]) (rest := []) (m_feelsEgg E l a cd hG kf jn js jq ws hW i0 (by omega) f2 k1) mf_X12_feelsEgg w_1455 0 k4 rfl rfl rfl (Nat.le_of_ble_eq_true rfl) ⟨(Nat.le_of_ble_eq_true rfl), (Nat.le_of_ble_eq_true rfl)⟩ ⟨(Nat.le_of_ble_eq_true rfl), (Nat.le_of_ble_eq_true rfl)⟩ dX12_broods_2 rfl (fun w32 h30 => ?_)
  obtain ⟨hW33, kq34, x35⟩ := h30
  have k36 : w32[1]? = some (iA E (a 1) 382 f2) := keeps_at kq34 k1 (by first | decide | omega | (dsimp only; omega))
  have k37 : w32[0]? = some (ob (a 0) 11 [.ref (a 1), .ref (a 2), .ref (a 3), .ref (a 4), .int (nI n5), .int (nI n7), .int (nI n9), .int v11, .int v12, .int v13, .int (nI n14), .int (nI n16), .int (nI n18), .int (nI (cd.2.2.2.2.2)), .ref (a 5), .ref (a 6), .ref (a 7), .ref (a 8), .ref (a 9), .ref (a 10), .ref (a 11), .ref (a 12), .ref (a 13), .ref (a 14), .ref (a 15), .ref (a 16), .ref (a 17), .int (nI n20), .ref (a 18), .ref (a 19), .ref (a 20), .ref (a 21), .int v22, .int v23, .int v24, .int v25, .int (nI n26), .int (nI n28), .ref (a 22), .ref (a 23), .ref (a 24), .ref (a 25), .ref (a 26), .ref (a 27), .ref (a 28), .ref (a 29), .ref (a 30), .int kf]) := keeps_at kq34 k4 (by first | decide | omega | (dsimp only; omega))
  have kp38 := keeps_tr kp0 kq34 (fun q hq => by first | omega | (dsimp only at *; omega))
  obtain ⟨g39, k40, ecl41⟩ := x35
  refine x_aload_n C dX12_broods_5 rfl 0 rfl rfl ?_
  refine x_get C (ci := 11) (k := 0) 0 k37 rfl in_X12 (by decide) w_1118 rfl dX12_broods_6 rfl ?_
  refine x_iconst C (v := 0) dX12_broods_9 (by decide) rfl ?_
  refine x_iload_n C dX12_broods_10 rfl 1 rfl rfl ?_
  refine x_iadd C (v := (nI (0 + i0))) dX12_broods_11 (nI_add 0 i0) rfl ?_
  refine x_sipush C (v := 240) dX12_broods_12 (by decide) rfl ?_
  refine x_aload_n C dX12_broods_15 rfl 0 rfl rfl ?_
  refine x_get C (ci := 11) (k := 0) 0 k37 rfl in_X12 (by decide) w_1118 rfl dX12_broods_16 rfl ?_
  refine x_iconst C (v := 0) dX12_broods_19 (by decide) rfl ?_
  refine x_iload_n C dX12_broods_20 rfl 1 rfl rfl ?_
  refine x_iadd C (v := (nI (0 + i0))) dX12_broods_21 (nI_add 0 i0) rfl ?_
  refine x_iald C (v := (f2 (nI (0 + i0)).toNatClampNeg)) 1 k36 (vp_in_nI (by omega) (by decide)) rfl dX12_broods_22 rfl ?_
  refine x_any (fun v42 => ?_)
  refine x_aload_n C dX12_broods_23 rfl 0 rfl rfl ?_
  refine x_bipush C (v := 104) dX12_broods_24 (by decide) rfl ?_
  refine x_bipush C (v := 60) dX12_broods_26 (by decide) rfl ?_
  refine x_vi C (As := [.int 104, .int 60]) (rest := [.int v42, .int 240, .int (nI (0 + i0)), .ref (a 1)]) (m_byLaw E l a cd hG kf jn js jq w32 hW33 (104 : Int32) 60 (by omega) g39 k40) mf_X12_byLaw w_1463 0 k37 rfl rfl rfl (Nat.le_of_ble_eq_true rfl) ⟨(Nat.le_of_ble_eq_true rfl), (Nat.le_of_ble_eq_true rfl)⟩ ⟨(Nat.le_of_ble_eq_true rfl), (Nat.le_of_ble_eq_true rfl)⟩ dX12_broods_28 rfl (fun r44 w45 h43 => ?_)
  obtain ⟨hW46, kq47, ⟨m49, bm50, e48⟩, x51⟩ := h43
  refine x_top e48 ?_
  have k52 : w45[1]? = some (iA E (a 1) 382 f2) := keeps_at kq47 k36 (by first | decide | omega | (dsimp only; omega))
  have k53 : w45[0]? = some (ob (a 0) 11 [.ref (a 1), .ref (a 2), .ref (a 3), .ref (a 4), .int (nI n5), .int (nI n7), .int (nI n9), .int v11, .int v12, .int v13, .int (nI n14), .int (nI n16), .int (nI n18), .int (nI (cd.2.2.2.2.2)), .ref (a 5), .ref (a 6), .ref (a 7), .ref (a 8), .ref (a 9), .ref (a 10), .ref (a 11), .ref (a 12), .ref (a 13), .ref (a 14), .ref (a 15), .ref (a 16), .ref (a 17), .int (nI n20), .ref (a 18), .ref (a 19), .ref (a 20), .ref (a 21), .int v22, .int v23, .int v24, .int v25, .int (nI n26), .int (nI n28), .ref (a 22), .ref (a 23), .ref (a 24), .ref (a 25), .ref (a 26), .ref (a 27), .ref (a 28), .ref (a 29), .ref (a 30), .int kf]) := keeps_at kq47 k37 (by first | decide | omega | (dsimp only; omega))
  have k54 : w45[17]? = some (iA E (a 17) 11 g39) := keeps_at kq47 k40 (by first | decide | omega | (dsimp only; omega))
  have kp55 := keeps_tr kp38 kq47 (fun q hq => by first | omega | (dsimp only at *; omega))
  refine x_iadd C (v := (v42 + (nI m49))) dX12_broods_31 rfl rfl ?_
  refine x_any (fun v56 => ?_)
  refine x_si C (As := [.int 240, .int v56]) (rest := [.int (nI (0 + i0)), .ref (a 1)]) (m_min E l a cd hG kf jn js jq w45 hW46 (240 : Int32) v56) mf_X12_min w_1479 rfl rfl (Nat.le_of_ble_eq_true rfl) ⟨(Nat.le_of_ble_eq_true rfl), (Nat.le_of_ble_eq_true rfl)⟩ ⟨(Nat.le_of_ble_eq_true rfl), (Nat.le_of_ble_eq_true rfl)⟩ dX12_broods_32 rfl (fun r58 w59 h57 => ?_)
  have hW60 := h57
  refine x_ws hW60 ?_
  have pf61 : NB jn (upd f2 (0 + i0) r58) := NB_free pf3 (by unfold bd; omega)
  obtain ⟨w62, hw63⟩ : ∃ w : va_W, w = List.set w45 1 (iA E (a 1) 382 (upd f2 (0 + i0) r58)) := ⟨_, rfl⟩
  refine x_iask C (0 + i0) (nI_clamp (by omega)) (nI_pos (by omega)) (by omega) 1 k52 hw63.symm dX12_broods_35 rfl ?_
  have hW64 : WX (okM E a cd kf jn js jq) w62 := by rw [hw63]; exact hW46.set (k := 1) rfl ⟨_, pf61, rfl⟩
  have k65 : w62[1]? = some (iA E (a 1) 382 (upd f2 (0 + i0) r58)) := by rw [hw63]; exact set_eq k52
  have k66 : w62[0]? = some (ob (a 0) 11 [.ref (a 1), .ref (a 2), .ref (a 3), .ref (a 4), .int (nI n5), .int (nI n7), .int (nI n9), .int v11, .int v12, .int v13, .int (nI n14), .int (nI n16), .int (nI n18), .int (nI (cd.2.2.2.2.2)), .ref (a 5), .ref (a 6), .ref (a 7), .ref (a 8), .ref (a 9), .ref (a 10), .ref (a 11), .ref (a 12), .ref (a 13), .ref (a 14), .ref (a 15), .ref (a 16), .ref (a 17), .int (nI n20), .ref (a 18), .ref (a 19), .ref (a 20), .ref (a 21), .int v22, .int v23, .int v24, .int v25, .int (nI n26), .int (nI n28), .ref (a 22), .ref (a 23), .ref (a 24), .ref (a 25), .ref (a 26), .ref (a 27), .ref (a 28), .ref (a 29), .ref (a 30), .int kf]) := by rw [hw63]; exact set_ne k53 (by decide)
  have k67 : w62[17]? = some (iA E (a 17) 11 g39) := by rw [hw63]; exact set_ne k54 (by decide)
  have kp68 := keeps_set kp55 hw63 (by first | exact rfl | decide | omega | (dsimp only; omega))
  refine x_aload_n C dX12_broods_36 rfl 0 rfl rfl ?_
  refine x_get C (ci := 11) (k := 0) 0 k66 rfl in_X12 (by decide) w_1118 rfl dX12_broods_37 rfl ?_
  refine x_sipush C (v := 192) dX12_broods_40 (by decide) rfl ?_
  refine x_iload_n C dX12_broods_43 rfl 1 rfl rfl ?_
  refine x_iadd C (v := (nI (192 + i0))) dX12_broods_44 (nI_add 192 i0) rfl ?_
  refine x_aload_n C dX12_broods_45 rfl 0 rfl rfl ?_
  refine x_get C (ci := 11) (k := 0) 0 k66 rfl in_X12 (by decide) w_1118 rfl dX12_broods_46 rfl ?_
  refine x_sipush C (v := 192) dX12_broods_49 (by decide) rfl ?_
  refine x_iload_n C dX12_broods_52 rfl 1 rfl rfl ?_
  refine x_iadd C (v := (nI (192 + i0))) dX12_broods_53 (nI_add 192 i0) rfl ?_
  refine x_iald C (v := ((upd f2 (0 + i0) r58) (nI (192 + i0)).toNatClampNeg)) 1 k65 (vp_in_nI (by omega) (by decide)) rfl dX12_broods_54 rfl ?_
  refine x_any (fun v69 => ?_)
  refine x_iconst C (v := 1) dX12_broods_55 (by decide) rfl ?_
  refine x_iadd C (v := (v69 + (1 : Int32))) dX12_broods_56 rfl rfl ?_
  refine x_any (fun v70 => ?_)
  have pf71 : NB jn (upd (upd f2 (0 + i0) r58) (192 + i0) v70) := NB_free pf61 (by unfold bd; omega)
  obtain ⟨w72, hw73⟩ : ∃ w : va_W, w = List.set w62 1 (iA E (a 1) 382 (upd (upd f2 (0 + i0) r58) (192 + i0) v70)) := ⟨_, rfl⟩
  refine x_iask C (192 + i0) (nI_clamp (by omega)) (nI_pos (by omega)) (by omega) 1 k65 hw73.symm dX12_broods_57 rfl ?_
  have hW74 : WX (okM E a cd kf jn js jq) w72 := by rw [hw73]; exact hW64.set (k := 1) rfl ⟨_, pf71, rfl⟩
  have k75 : w72[1]? = some (iA E (a 1) 382 (upd (upd f2 (0 + i0) r58) (192 + i0) v70)) := by rw [hw73]; exact set_eq k65
  have k76 : w72[0]? = some (ob (a 0) 11 [.ref (a 1), .ref (a 2), .ref (a 3), .ref (a 4), .int (nI n5), .int (nI n7), .int (nI n9), .int v11, .int v12, .int v13, .int (nI n14), .int (nI n16), .int (nI n18), .int (nI (cd.2.2.2.2.2)), .ref (a 5), .ref (a 6), .ref (a 7), .ref (a 8), .ref (a 9), .ref (a 10), .ref (a 11), .ref (a 12), .ref (a 13), .ref (a 14), .ref (a 15), .ref (a 16), .ref (a 17), .int (nI n20), .ref (a 18), .ref (a 19), .ref (a 20), .ref (a 21), .int v22, .int v23, .int v24, .int v25, .int (nI n26), .int (nI n28), .ref (a 22), .ref (a 23), .ref (a 24), .ref (a 25), .ref (a 26), .ref (a 27), .ref (a 28), .ref (a 29), .ref (a 30), .int kf]) := by rw [hw73]; exact set_ne k66 (by decide)
  have k77 : w72[17]? = some (iA E (a 17) 11 g39) := by rw [hw73]; exact set_ne k67 (by decide)
  have kp78 := keeps_set kp68 hw73 (by first | exact rfl | decide | omega | (dsimp only; omega))
  exact x_vret C hr hlk dX12_broods_58 ⟨hW74, kp78⟩
theorem dX12_lays_0 : decode cX12_lays 0 = .ok (.aload_n 0, 1) := by decide +kernel
theorem dX12_lays_1 : decode cX12_lays 1 = .ok (.invokevirtual 304, 3) := by decide +kernel
theorem dX12_lays_4 : decode cX12_lays 4 = .ok (.istore_n 2, 1) := by decide +kernel
theorem dX12_lays_5 : decode cX12_lays 5 = .ok (.aload_n 0, 1) := by decide +kernel
theorem dX12_lays_6 : decode cX12_lays 6 = .ok (.iload_n 1, 1) := by decide +kernel
theorem dX12_lays_7 : decode cX12_lays 7 = .ok (.iload_n 2, 1) := by decide +kernel
theorem dX12_lays_8 : decode cX12_lays 8 = .ok (.invokevirtual 307, 3) := by decide +kernel
theorem dX12_lays_11 : decode cX12_lays 11 = .ok (.aload_n 0, 1) := by decide +kernel
theorem dX12_lays_12 : decode cX12_lays 12 = .ok (.bipush 108, 2) := by decide +kernel
theorem dX12_lays_14 : decode cX12_lays 14 = .ok (.sipush 240, 3) := by decide +kernel
theorem dX12_lays_17 : decode cX12_lays 17 = .ok (.invokevirtual 240, 3) := by decide +kernel
theorem dX12_lays_20 : decode cX12_lays 20 = .ok (.istore_n 3, 1) := by decide +kernel
theorem dX12_lays_21 : decode cX12_lays 21 = .ok (.aload_n 0, 1) := by decide +kernel
theorem dX12_lays_22 : decode cX12_lays 22 = .ok (.getfield 7, 3) := by decide +kernel
theorem dX12_lays_25 : decode cX12_lays 25 = .ok (.sipush 381, 3) := by decide +kernel
theorem dX12_lays_28 : decode cX12_lays 28 = .ok (.iaload, 1) := by decide +kernel
theorem dX12_lays_29 : decode cX12_lays 29 = .ok (.istore 4, 2) := by decide +kernel
theorem dX12_lays_31 : decode cX12_lays 31 = .ok (.aload_n 0, 1) := by decide +kernel
theorem dX12_lays_32 : decode cX12_lays 32 = .ok (.getfield 7, 3) := by decide +kernel
theorem dX12_lays_35 : decode cX12_lays 35 = .ok (.iconst 0, 1) := by decide +kernel
theorem dX12_lays_36 : decode cX12_lays 36 = .ok (.iload 4, 2) := by decide +kernel
theorem dX12_lays_38 : decode cX12_lays 38 = .ok (.iadd, 1) := by decide +kernel
theorem dX12_lays_39 : decode cX12_lays 39 = .ok (.iload_n 3, 1) := by decide +kernel
theorem dX12_lays_40 : decode cX12_lays 40 = .ok (.iastore, 1) := by decide +kernel
theorem dX12_lays_41 : decode cX12_lays 41 = .ok (.aload_n 0, 1) := by decide +kernel
theorem dX12_lays_42 : decode cX12_lays 42 = .ok (.getfield 7, 3) := by decide +kernel
theorem dX12_lays_45 : decode cX12_lays 45 = .ok (.bipush 48, 2) := by decide +kernel
theorem dX12_lays_47 : decode cX12_lays 47 = .ok (.iload 4, 2) := by decide +kernel
theorem dX12_lays_49 : decode cX12_lays 49 = .ok (.iadd, 1) := by decide +kernel
theorem dX12_lays_50 : decode cX12_lays 50 = .ok (.aload_n 0, 1) := by decide +kernel
theorem dX12_lays_51 : decode cX12_lays 51 = .ok (.getfield 7, 3) := by decide +kernel
theorem dX12_lays_54 : decode cX12_lays 54 = .ok (.sipush 379, 3) := by decide +kernel
theorem dX12_lays_57 : decode cX12_lays 57 = .ok (.iaload, 1) := by decide +kernel
theorem dX12_lays_58 : decode cX12_lays 58 = .ok (.iastore, 1) := by decide +kernel
theorem dX12_lays_59 : decode cX12_lays 59 = .ok (.aload_n 0, 1) := by decide +kernel
theorem dX12_lays_60 : decode cX12_lays 60 = .ok (.getfield 7, 3) := by decide +kernel
theorem dX12_lays_63 : decode cX12_lays 63 = .ok (.bipush 96, 2) := by decide +kernel
theorem dX12_lays_65 : decode cX12_lays 65 = .ok (.iload 4, 2) := by decide +kernel
theorem dX12_lays_67 : decode cX12_lays 67 = .ok (.iadd, 1) := by decide +kernel
theorem dX12_lays_68 : decode cX12_lays 68 = .ok (.iload_n 1, 1) := by decide +kernel
theorem dX12_lays_69 : decode cX12_lays 69 = .ok (.iastore, 1) := by decide +kernel
theorem dX12_lays_70 : decode cX12_lays 70 = .ok (.aload_n 0, 1) := by decide +kernel
theorem dX12_lays_71 : decode cX12_lays 71 = .ok (.getfield 7, 3) := by decide +kernel
theorem dX12_lays_74 : decode cX12_lays 74 = .ok (.sipush 144, 3) := by decide +kernel
theorem dX12_lays_77 : decode cX12_lays 77 = .ok (.iload 4, 2) := by decide +kernel
theorem dX12_lays_79 : decode cX12_lays 79 = .ok (.iadd, 1) := by decide +kernel
theorem dX12_lays_80 : decode cX12_lays 80 = .ok (.aload_n 0, 1) := by decide +kernel
theorem dX12_lays_81 : decode cX12_lays 81 = .ok (.getfield 7, 3) := by decide +kernel
theorem dX12_lays_84 : decode cX12_lays 84 = .ok (.sipush 329, 3) := by decide +kernel
theorem dX12_lays_87 : decode cX12_lays 87 = .ok (.iload_n 1, 1) := by decide +kernel
theorem dX12_lays_88 : decode cX12_lays 88 = .ok (.iadd, 1) := by decide +kernel
theorem dX12_lays_89 : decode cX12_lays 89 = .ok (.iaload, 1) := by decide +kernel
theorem dX12_lays_90 : decode cX12_lays 90 = .ok (.iastore, 1) := by decide +kernel
theorem dX12_lays_91 : decode cX12_lays 91 = .ok (.aload_n 0, 1) := by decide +kernel
theorem dX12_lays_92 : decode cX12_lays 92 = .ok (.getfield 7, 3) := by decide +kernel
theorem dX12_lays_95 : decode cX12_lays 95 = .ok (.sipush 192, 3) := by decide +kernel
theorem dX12_lays_98 : decode cX12_lays 98 = .ok (.iload 4, 2) := by decide +kernel
theorem dX12_lays_100 : decode cX12_lays 100 = .ok (.iadd, 1) := by decide +kernel
theorem dX12_lays_101 : decode cX12_lays 101 = .ok (.iconst 0, 1) := by decide +kernel
theorem dX12_lays_102 : decode cX12_lays 102 = .ok (.iastore, 1) := by decide +kernel
theorem dX12_lays_103 : decode cX12_lays 103 = .ok (.aload_n 0, 1) := by decide +kernel
theorem dX12_lays_104 : decode cX12_lays 104 = .ok (.getfield 7, 3) := by decide +kernel
theorem dX12_lays_107 : decode cX12_lays 107 = .ok (.sipush 240, 3) := by decide +kernel
theorem dX12_lays_110 : decode cX12_lays 110 = .ok (.iload 4, 2) := by decide +kernel
theorem dX12_lays_112 : decode cX12_lays 112 = .ok (.iadd, 1) := by decide +kernel
theorem dX12_lays_113 : decode cX12_lays 113 = .ok (.iconst 0, 1) := by decide +kernel
theorem dX12_lays_114 : decode cX12_lays 114 = .ok (.iastore, 1) := by decide +kernel
theorem dX12_lays_115 : decode cX12_lays 115 = .ok (.aload_n 0, 1) := by decide +kernel
theorem dX12_lays_116 : decode cX12_lays 116 = .ok (.getfield 7, 3) := by decide +kernel
theorem dX12_lays_119 : decode cX12_lays 119 = .ok (.sipush 381, 3) := by decide +kernel
theorem dX12_lays_122 : decode cX12_lays 122 = .ok (.iload 4, 2) := by decide +kernel
theorem dX12_lays_124 : decode cX12_lays 124 = .ok (.iconst 1, 1) := by decide +kernel
theorem dX12_lays_125 : decode cX12_lays 125 = .ok (.iadd, 1) := by decide +kernel
theorem dX12_lays_126 : decode cX12_lays 126 = .ok (.iastore, 1) := by decide +kernel
theorem dX12_lays_127 : decode cX12_lays 127 = .ok (.aload_n 0, 1) := by decide +kernel
theorem dX12_lays_128 : decode cX12_lays 128 = .ok (.getfield 7, 3) := by decide +kernel
theorem dX12_lays_131 : decode cX12_lays 131 = .ok (.sipush 296, 3) := by decide +kernel
theorem dX12_lays_134 : decode cX12_lays 134 = .ok (.aload_n 0, 1) := by decide +kernel
theorem dX12_lays_135 : decode cX12_lays 135 = .ok (.getfield 7, 3) := by decide +kernel
theorem dX12_lays_138 : decode cX12_lays 138 = .ok (.sipush 329, 3) := by decide +kernel
theorem dX12_lays_141 : decode cX12_lays 141 = .ok (.iload_n 1, 1) := by decide +kernel
theorem dX12_lays_142 : decode cX12_lays 142 = .ok (.iadd, 1) := by decide +kernel
theorem dX12_lays_143 : decode cX12_lays 143 = .ok (.iaload, 1) := by decide +kernel
theorem dX12_lays_144 : decode cX12_lays 144 = .ok (.iadd, 1) := by decide +kernel
theorem dX12_lays_145 : decode cX12_lays 145 = .ok (.aload_n 0, 1) := by decide +kernel
theorem dX12_lays_146 : decode cX12_lays 146 = .ok (.getfield 7, 3) := by decide +kernel
theorem dX12_lays_149 : decode cX12_lays 149 = .ok (.sipush 296, 3) := by decide +kernel
theorem dX12_lays_152 : decode cX12_lays 152 = .ok (.aload_n 0, 1) := by decide +kernel
theorem dX12_lays_153 : decode cX12_lays 153 = .ok (.getfield 7, 3) := by decide +kernel
theorem dX12_lays_156 : decode cX12_lays 156 = .ok (.sipush 329, 3) := by decide +kernel
theorem dX12_lays_159 : decode cX12_lays 159 = .ok (.iload_n 1, 1) := by decide +kernel
theorem dX12_lays_160 : decode cX12_lays 160 = .ok (.iadd, 1) := by decide +kernel
theorem dX12_lays_161 : decode cX12_lays 161 = .ok (.iaload, 1) := by decide +kernel
theorem dX12_lays_162 : decode cX12_lays 162 = .ok (.iadd, 1) := by decide +kernel
theorem dX12_lays_163 : decode cX12_lays 163 = .ok (.iaload, 1) := by decide +kernel
theorem dX12_lays_164 : decode cX12_lays 164 = .ok (.iload_n 3, 1) := by decide +kernel
theorem dX12_lays_165 : decode cX12_lays 165 = .ok (.iadd, 1) := by decide +kernel
theorem dX12_lays_166 : decode cX12_lays 166 = .ok (.iastore, 1) := by decide +kernel
theorem dX12_lays_167 : decode cX12_lays 167 = .ok (.aload_n 0, 1) := by decide +kernel
theorem dX12_lays_168 : decode cX12_lays 168 = .ok (.aload_n 0, 1) := by decide +kernel
theorem dX12_lays_169 : decode cX12_lays 169 = .ok (.getfield 310, 3) := by decide +kernel
theorem dX12_lays_172 : decode cX12_lays 172 = .ok (.iconst 1, 1) := by decide +kernel
theorem dX12_lays_173 : decode cX12_lays 173 = .ok (.iadd, 1) := by decide +kernel
theorem dX12_lays_174 : decode cX12_lays 174 = .ok (.putfield 310, 3) := by decide +kernel
theorem dX12_lays_177 : decode cX12_lays 177 = .ok (.aload_n 0, 1) := by decide +kernel
theorem dX12_lays_178 : decode cX12_lays 178 = .ok (.aload_n 0, 1) := by decide +kernel
theorem dX12_lays_179 : decode cX12_lays 179 = .ok (.getfield 313, 3) := by decide +kernel
theorem dX12_lays_182 : decode cX12_lays 182 = .ok (.iload_n 3, 1) := by decide +kernel
theorem dX12_lays_183 : decode cX12_lays 183 = .ok (.iadd, 1) := by decide +kernel
theorem dX12_lays_184 : decode cX12_lays 184 = .ok (.putfield 313, 3) := by decide +kernel
theorem dX12_lays_187 : decode cX12_lays 187 = .ok (.return_, 1) := by decide +kernel
set_option maxRecDepth 20000 in
set_option maxHeartbeats 4000000 in
theorem m_lays (E : xE) (l : Launch) (a : Nat → Nat) (cd : Cd) (hG : Good cd) (kf : Int32) (jn js jq : Lb) (ws : va_W) (hW : WX (okM E a cd kf jn js jq) ws) (y0 : Nat) (hy0 : y0 ≤ 7) (fn : Nat → Int32) (hfn : ws[1]? = some (iA E (a 1) 382 fn)) (m0 : Nat) (hml : m0 < 48) (hm0 : fn 381 = nI m0) : xV E l yX12_lays cX12_lays 5 3 0 0 [.ref (a 0), .int (nI y0)] ws (fun w => WX (okM E a cd kf jn js jq) w ∧ keeps ws w (fun q => q = 0 ∨ q = 1 ∨ q = 16 ∨ q = 17) ∧ (dyK E a jn ws w)) := by
  refine xV_start (lv := [(0, .ref (a 0)), (1, .int (nI y0))]) RX12 (by decide) rfl (Nat.le_of_ble_eq_true rfl) rfl (fun p e s m below meth c A C hr hlk hin => ?_)
  have kp0 : keeps ws ws (fun q => q = 0 ∨ q = 1 ∨ q = 16 ∨ q = 17) := keeps_rf
  obtain ⟨_, kq1, fq, pfq, rfl⟩ := hW 1 _ rfl
  obtain rfl := iA_inj (hfn.symm.trans kq1)
  refine x_aload_n C dX12_lays_0 rfl 0 rfl rfl ?_
  obtain ⟨_, k1, n2, n4, n6, v8, v9, v10, n11, n13, n15, n17, v19, v20, v21, v22, n23, n25, bn3, bn5, bn7, bn12, bn14, bn16, bn18, bn24, bn26, rfl⟩ := hW 0 _ rfl
  refine x_vi C (As := []) (rest := []) (m_draws E l a cd hG kf jn js jq ws hW) mf_X12_draws w_1505 0 k1 rfl rfl rfl (Nat.le_of_ble_eq_true rfl) ⟨(Nat.le_of_ble_eq_true rfl), (Nat.le_of_ble_eq_true rfl)⟩ ⟨(Nat.le_of_ble_eq_true rfl), (Nat.le_of_ble_eq_true rfl)⟩ dX12_lays_1 rfl (fun r28 w29 h27 => ?_)
  obtain ⟨hW30, kq31, x32⟩ := h27
  have k33 : w29[0]? = some (ob (a 0) 11 [.ref (a 1), .ref (a 2), .ref (a 3), .ref (a 4), .int (nI n2), .int (nI n4), .int (nI n6), .int v8, .int v9, .int v10, .int (nI n11), .int (nI n13), .int (nI n15), .int (nI (cd.2.2.2.2.2)), .ref (a 5), .ref (a 6), .ref (a 7), .ref (a 8), .ref (a 9), .ref (a 10), .ref (a 11), .ref (a 12), .ref (a 13), .ref (a 14), .ref (a 15), .ref (a 16), .ref (a 17), .int (nI n17), .ref (a 18), .ref (a 19), .ref (a 20), .ref (a 21), .int v19, .int v20, .int v21, .int v22, .int (nI n23), .int (nI n25), .ref (a 22), .ref (a 23), .ref (a 24), .ref (a 25), .ref (a 26), .ref (a 27), .ref (a 28), .ref (a 29), .ref (a 30), .int kf]) := keeps_at kq31 k1 (by first | decide | omega | (dsimp only; omega))
  have kp34 := keeps_tr kp0 kq31 (fun q hq => by first | omega | (dsimp only at *; omega))
  obtain ⟨v35, k36⟩ := x32 _ hfn
  have pf37 : NB jn (upd fn 380 v35) := NB_free pfq (by unfold bd; omega)
  refine x_istore_n C (lv' := [(2, .int r28), (0, .ref (a 0)), (1, .int (nI y0))]) dX12_lays_4 rfl (by decide) rfl rfl ?_
  refine x_aload_n C dX12_lays_5 rfl 1 rfl rfl ?_
  refine x_iload_n C dX12_lays_6 rfl 2 rfl rfl ?_
  refine x_iload_n C dX12_lays_7 rfl 0 rfl rfl ?_
  refine x_vv C (As := [.int (nI y0), .int r28]) (rest := []) (m_feelsHen E l a cd hG kf jn js jq w29 hW30 y0 r28 (by omega) ((upd fn 380 v35)) k36) mf_X12_feelsHen w_1510 0 k33 rfl rfl rfl (Nat.le_of_ble_eq_true rfl) ⟨(Nat.le_of_ble_eq_true rfl), (Nat.le_of_ble_eq_true rfl)⟩ ⟨(Nat.le_of_ble_eq_true rfl), (Nat.le_of_ble_eq_true rfl)⟩ dX12_lays_8 rfl (fun w40 h38 => ?_)
  obtain ⟨hW41, kq42, x43⟩ := h38
  have k44 : w40[0]? = some (ob (a 0) 11 [.ref (a 1), .ref (a 2), .ref (a 3), .ref (a 4), .int (nI n2), .int (nI n4), .int (nI n6), .int v8, .int v9, .int v10, .int (nI n11), .int (nI n13), .int (nI n15), .int (nI (cd.2.2.2.2.2)), .ref (a 5), .ref (a 6), .ref (a 7), .ref (a 8), .ref (a 9), .ref (a 10), .ref (a 11), .ref (a 12), .ref (a 13), .ref (a 14), .ref (a 15), .ref (a 16), .ref (a 17), .int (nI n17), .ref (a 18), .ref (a 19), .ref (a 20), .ref (a 21), .int v19, .int v20, .int v21, .int v22, .int (nI n23), .int (nI n25), .ref (a 22), .ref (a 23), .ref (a 24), .ref (a 25), .ref (a 26), .ref (a 27), .ref (a 28), .ref (a 29), .ref (a 30), .int kf]) := keeps_at kq42 k33 (by first | decide | omega | (dsimp only; omega))
  have k45 : w40[1]? = some (iA E (a 1) 382 (upd fn 380 v35)) := keeps_at kq42 k36 (by first | decide | omega | (dsimp only; omega))
  have kp46 := keeps_tr kp34 kq42 (fun q hq => by first | omega | (dsimp only at *; omega))
  obtain ⟨g47, k48, ecl49⟩ := x43
  refine x_aload_n C dX12_lays_11 rfl 1 rfl rfl ?_
  refine x_bipush C (v := 108) dX12_lays_12 (by decide) rfl ?_
  refine x_sipush C (v := 240) dX12_lays_14 (by decide) rfl ?_
  refine x_vi C (As := [.int 108, .int 240]) (rest := []) (m_byLaw E l a cd hG kf jn js jq w40 hW41 (108 : Int32) 240 (by omega) g47 k48) mf_X12_byLaw w_1463 0 k44 rfl rfl rfl (Nat.le_of_ble_eq_true rfl) ⟨(Nat.le_of_ble_eq_true rfl), (Nat.le_of_ble_eq_true rfl)⟩ ⟨(Nat.le_of_ble_eq_true rfl), (Nat.le_of_ble_eq_true rfl)⟩ dX12_lays_17 rfl (fun r51 w52 h50 => ?_)
  obtain ⟨hW53, kq54, ⟨m56, bm57, e55⟩, x58⟩ := h50
  refine x_top e55 ?_
  have k59 : w52[0]? = some (ob (a 0) 11 [.ref (a 1), .ref (a 2), .ref (a 3), .ref (a 4), .int (nI n2), .int (nI n4), .int (nI n6), .int v8, .int v9, .int v10, .int (nI n11), .int (nI n13), .int (nI n15), .int (nI (cd.2.2.2.2.2)), .ref (a 5), .ref (a 6), .ref (a 7), .ref (a 8), .ref (a 9), .ref (a 10), .ref (a 11), .ref (a 12), .ref (a 13), .ref (a 14), .ref (a 15), .ref (a 16), .ref (a 17), .int (nI n17), .ref (a 18), .ref (a 19), .ref (a 20), .ref (a 21), .int v19, .int v20, .int v21, .int v22, .int (nI n23), .int (nI n25), .ref (a 22), .ref (a 23), .ref (a 24), .ref (a 25), .ref (a 26), .ref (a 27), .ref (a 28), .ref (a 29), .ref (a 30), .int kf]) := keeps_at kq54 k44 (by first | decide | omega | (dsimp only; omega))
  have k60 : w52[1]? = some (iA E (a 1) 382 (upd fn 380 v35)) := keeps_at kq54 k45 (by first | decide | omega | (dsimp only; omega))
  have k61 : w52[17]? = some (iA E (a 17) 11 g47) := keeps_at kq54 k48 (by first | decide | omega | (dsimp only; omega))
  have kp62 := keeps_tr kp46 kq54 (fun q hq => by first | omega | (dsimp only at *; omega))
  refine x_istore_n C (lv' := [(3, .int (nI m56)), (2, .int r28), (0, .ref (a 0)), (1, .int (nI y0))]) dX12_lays_20 rfl (by decide) rfl rfl ?_
  refine x_aload_n C dX12_lays_21 rfl 2 rfl rfl ?_
  refine x_get C (ci := 11) (k := 0) 0 k59 rfl in_X12 (by decide) w_1118 rfl dX12_lays_22 rfl ?_
  refine x_sipush C (v := 381) dX12_lays_25 (by decide) rfl ?_
  refine x_ialk C (v := ((upd fn 380 v35) 381)) 381 (by decide) (by decide) (by decide) 1 k60 rfl dX12_lays_28 rfl ?_
  refine x_top (show (upd fn 380 v35) 381 = nI m0 from by (repeat rw [pk_un (by omega)]); exact hm0) ?_
  refine x_istore C (lv' := [(4, .int (nI m0)), (3, .int (nI m56)), (2, .int r28), (0, .ref (a 0)), (1, .int (nI y0))]) dX12_lays_29 (by decide) rfl rfl ?_
  refine x_aload_n C dX12_lays_31 rfl 3 rfl rfl ?_
  refine x_get C (ci := 11) (k := 0) 0 k59 rfl in_X12 (by decide) w_1118 rfl dX12_lays_32 rfl ?_
  refine x_iconst C (v := 0) dX12_lays_35 (by decide) rfl ?_
  refine x_iload C dX12_lays_36 0 rfl rfl ?_
  refine x_iadd C (v := (nI (0 + m0))) dX12_lays_38 (nI_add 0 m0) rfl ?_
  refine x_iload_n C dX12_lays_39 rfl 1 rfl rfl ?_
  have pf63 : NB jn (upd (upd fn 380 v35) (0 + m0) (nI m56)) := NB_free pf37 (by unfold bd; omega)
  obtain ⟨w64, hw65⟩ : ∃ w : va_W, w = List.set w52 1 (iA E (a 1) 382 (upd (upd fn 380 v35) (0 + m0) (nI m56))) := ⟨_, rfl⟩
  refine x_iask C (0 + m0) (nI_clamp (by omega)) (nI_pos (by omega)) (by omega) 1 k60 hw65.symm dX12_lays_40 rfl ?_
  have hW66 : WX (okM E a cd kf jn js jq) w64 := by rw [hw65]; exact hW53.set (k := 1) rfl ⟨_, pf63, rfl⟩
  have k67 : w64[0]? = some (ob (a 0) 11 [.ref (a 1), .ref (a 2), .ref (a 3), .ref (a 4), .int (nI n2), .int (nI n4), .int (nI n6), .int v8, .int v9, .int v10, .int (nI n11), .int (nI n13), .int (nI n15), .int (nI (cd.2.2.2.2.2)), .ref (a 5), .ref (a 6), .ref (a 7), .ref (a 8), .ref (a 9), .ref (a 10), .ref (a 11), .ref (a 12), .ref (a 13), .ref (a 14), .ref (a 15), .ref (a 16), .ref (a 17), .int (nI n17), .ref (a 18), .ref (a 19), .ref (a 20), .ref (a 21), .int v19, .int v20, .int v21, .int v22, .int (nI n23), .int (nI n25), .ref (a 22), .ref (a 23), .ref (a 24), .ref (a 25), .ref (a 26), .ref (a 27), .ref (a 28), .ref (a 29), .ref (a 30), .int kf]) := by rw [hw65]; exact set_ne k59 (by decide)
  have k68 : w64[1]? = some (iA E (a 1) 382 (upd (upd fn 380 v35) (0 + m0) (nI m56))) := by rw [hw65]; exact set_eq k60
  have k69 : w64[17]? = some (iA E (a 17) 11 g47) := by rw [hw65]; exact set_ne k61 (by decide)
  have kp70 := keeps_set kp62 hw65 (by first | exact rfl | decide | omega | (dsimp only; omega))
  refine x_aload_n C dX12_lays_41 rfl 3 rfl rfl ?_
  refine x_get C (ci := 11) (k := 0) 0 k67 rfl in_X12 (by decide) w_1118 rfl dX12_lays_42 rfl ?_
  refine x_bipush C (v := 48) dX12_lays_45 (by decide) rfl ?_
  refine x_iload C dX12_lays_47 0 rfl rfl ?_
  refine x_iadd C (v := (nI (48 + m0))) dX12_lays_49 (nI_add 48 m0) rfl ?_
  refine x_aload_n C dX12_lays_50 rfl 3 rfl rfl ?_
  refine x_get C (ci := 11) (k := 0) 0 k67 rfl in_X12 (by decide) w_1118 rfl dX12_lays_51 rfl ?_
  refine x_sipush C (v := 379) dX12_lays_54 (by decide) rfl ?_
  obtain ⟨n71, hn72, en73⟩ := NB_day pf63
  refine x_ialk C (v := nI n71) 379 (by decide) (by decide) (by decide) 1 k68 en73 dX12_lays_57 rfl ?_
  have pf74 : NB jn (upd (upd (upd fn 380 v35) (0 + m0) (nI m56)) (48 + m0) (nI n71)) := NB_put_lo (j := m0) pf63 (by omega) (by omega)
  obtain ⟨w75, hw76⟩ : ∃ w : va_W, w = List.set w64 1 (iA E (a 1) 382 (upd (upd (upd fn 380 v35) (0 + m0) (nI m56)) (48 + m0) (nI n71))) := ⟨_, rfl⟩
  refine x_iask C (48 + m0) (nI_clamp (by omega)) (nI_pos (by omega)) (by omega) 1 k68 hw76.symm dX12_lays_58 rfl ?_
  have hW77 : WX (okM E a cd kf jn js jq) w75 := by rw [hw76]; exact hW66.set (k := 1) rfl ⟨_, pf74, rfl⟩
  have k78 : w75[0]? = some (ob (a 0) 11 [.ref (a 1), .ref (a 2), .ref (a 3), .ref (a 4), .int (nI n2), .int (nI n4), .int (nI n6), .int v8, .int v9, .int v10, .int (nI n11), .int (nI n13), .int (nI n15), .int (nI (cd.2.2.2.2.2)), .ref (a 5), .ref (a 6), .ref (a 7), .ref (a 8), .ref (a 9), .ref (a 10), .ref (a 11), .ref (a 12), .ref (a 13), .ref (a 14), .ref (a 15), .ref (a 16), .ref (a 17), .int (nI n17), .ref (a 18), .ref (a 19), .ref (a 20), .ref (a 21), .int v19, .int v20, .int v21, .int v22, .int (nI n23), .int (nI n25), .ref (a 22), .ref (a 23), .ref (a 24), .ref (a 25), .ref (a 26), .ref (a 27), .ref (a 28), .ref (a 29), .ref (a 30), .int kf]) := by rw [hw76]; exact set_ne k67 (by decide)
  have k79 : w75[1]? = some (iA E (a 1) 382 (upd (upd (upd fn 380 v35) (0 + m0) (nI m56)) (48 + m0) (nI n71))) := by rw [hw76]; exact set_eq k68
  have k80 : w75[17]? = some (iA E (a 17) 11 g47) := by rw [hw76]; exact set_ne k69 (by decide)
  have kp81 := keeps_set kp70 hw76 (by first | exact rfl | decide | omega | (dsimp only; omega))
  refine x_aload_n C dX12_lays_59 rfl 3 rfl rfl ?_
  refine x_get C (ci := 11) (k := 0) 0 k78 rfl in_X12 (by decide) w_1118 rfl dX12_lays_60 rfl ?_
  refine x_bipush C (v := 96) dX12_lays_63 (by decide) rfl ?_
  refine x_iload C dX12_lays_65 0 rfl rfl ?_
  refine x_iadd C (v := (nI (96 + m0))) dX12_lays_67 (nI_add 96 m0) rfl ?_
  refine x_iload_n C dX12_lays_68 rfl 4 rfl rfl ?_
  have pf82 : NB jn (upd (upd (upd (upd fn 380 v35) (0 + m0) (nI m56)) (48 + m0) (nI n71)) (96 + m0) (nI y0)) := NB_put_hen (j := m0) pf74 (by omega) (by omega)
  obtain ⟨w83, hw84⟩ : ∃ w : va_W, w = List.set w75 1 (iA E (a 1) 382 (upd (upd (upd (upd fn 380 v35) (0 + m0) (nI m56)) (48 + m0) (nI n71)) (96 + m0) (nI y0))) := ⟨_, rfl⟩
  refine x_iask C (96 + m0) (nI_clamp (by omega)) (nI_pos (by omega)) (by omega) 1 k79 hw84.symm dX12_lays_69 rfl ?_
  have hW85 : WX (okM E a cd kf jn js jq) w83 := by rw [hw84]; exact hW77.set (k := 1) rfl ⟨_, pf82, rfl⟩
  have k86 : w83[0]? = some (ob (a 0) 11 [.ref (a 1), .ref (a 2), .ref (a 3), .ref (a 4), .int (nI n2), .int (nI n4), .int (nI n6), .int v8, .int v9, .int v10, .int (nI n11), .int (nI n13), .int (nI n15), .int (nI (cd.2.2.2.2.2)), .ref (a 5), .ref (a 6), .ref (a 7), .ref (a 8), .ref (a 9), .ref (a 10), .ref (a 11), .ref (a 12), .ref (a 13), .ref (a 14), .ref (a 15), .ref (a 16), .ref (a 17), .int (nI n17), .ref (a 18), .ref (a 19), .ref (a 20), .ref (a 21), .int v19, .int v20, .int v21, .int v22, .int (nI n23), .int (nI n25), .ref (a 22), .ref (a 23), .ref (a 24), .ref (a 25), .ref (a 26), .ref (a 27), .ref (a 28), .ref (a 29), .ref (a 30), .int kf]) := by rw [hw84]; exact set_ne k78 (by decide)
  have k87 : w83[1]? = some (iA E (a 1) 382 (upd (upd (upd (upd fn 380 v35) (0 + m0) (nI m56)) (48 + m0) (nI n71)) (96 + m0) (nI y0))) := by rw [hw84]; exact set_eq k79
  have k88 : w83[17]? = some (iA E (a 17) 11 g47) := by rw [hw84]; exact set_ne k80 (by decide)
  have kp89 := keeps_set kp81 hw84 (by first | exact rfl | decide | omega | (dsimp only; omega))
  refine x_aload_n C dX12_lays_70 rfl 3 rfl rfl ?_
  refine x_get C (ci := 11) (k := 0) 0 k86 rfl in_X12 (by decide) w_1118 rfl dX12_lays_71 rfl ?_
  refine x_sipush C (v := 144) dX12_lays_74 (by decide) rfl ?_
  refine x_iload C dX12_lays_77 0 rfl rfl ?_
  refine x_iadd C (v := (nI (144 + m0))) dX12_lays_79 (nI_add 144 m0) rfl ?_
  refine x_aload_n C dX12_lays_80 rfl 3 rfl rfl ?_
  refine x_get C (ci := 11) (k := 0) 0 k86 rfl in_X12 (by decide) w_1118 rfl dX12_lays_81 rfl ?_
  refine x_sipush C (v := 329) dX12_lays_84 (by decide) rfl ?_
  refine x_iload_n C dX12_lays_87 rfl 4 rfl rfl ?_
  refine x_iadd C (v := (nI (329 + y0))) dX12_lays_88 (nI_add 329 y0) rfl ?_
  obtain ⟨n90, hn91, en92⟩ := NB_kp (j := y0) pf82 (by omega)
  refine x_ialk C (v := nI n90) (329 + y0) (nI_clamp (by omega)) (nI_pos (by omega)) (by omega) 1 k87 en92 dX12_lays_89 rfl ?_
  have pf93 : NB jn (upd (upd (upd (upd (upd fn 380 v35) (0 + m0) (nI m56)) (48 + m0) (nI n71)) (96 + m0) (nI y0)) (144 + m0) (nI n90)) := NB_put_own (j := m0) pf82 (by omega) (by omega)
  obtain ⟨w94, hw95⟩ : ∃ w : va_W, w = List.set w83 1 (iA E (a 1) 382 (upd (upd (upd (upd (upd fn 380 v35) (0 + m0) (nI m56)) (48 + m0) (nI n71)) (96 + m0) (nI y0)) (144 + m0) (nI n90))) := ⟨_, rfl⟩
  refine x_iask C (144 + m0) (nI_clamp (by omega)) (nI_pos (by omega)) (by omega) 1 k87 hw95.symm dX12_lays_90 rfl ?_
  have hW96 : WX (okM E a cd kf jn js jq) w94 := by rw [hw95]; exact hW85.set (k := 1) rfl ⟨_, pf93, rfl⟩
  have k97 : w94[0]? = some (ob (a 0) 11 [.ref (a 1), .ref (a 2), .ref (a 3), .ref (a 4), .int (nI n2), .int (nI n4), .int (nI n6), .int v8, .int v9, .int v10, .int (nI n11), .int (nI n13), .int (nI n15), .int (nI (cd.2.2.2.2.2)), .ref (a 5), .ref (a 6), .ref (a 7), .ref (a 8), .ref (a 9), .ref (a 10), .ref (a 11), .ref (a 12), .ref (a 13), .ref (a 14), .ref (a 15), .ref (a 16), .ref (a 17), .int (nI n17), .ref (a 18), .ref (a 19), .ref (a 20), .ref (a 21), .int v19, .int v20, .int v21, .int v22, .int (nI n23), .int (nI n25), .ref (a 22), .ref (a 23), .ref (a 24), .ref (a 25), .ref (a 26), .ref (a 27), .ref (a 28), .ref (a 29), .ref (a 30), .int kf]) := by rw [hw95]; exact set_ne k86 (by decide)
  have k98 : w94[1]? = some (iA E (a 1) 382 (upd (upd (upd (upd (upd fn 380 v35) (0 + m0) (nI m56)) (48 + m0) (nI n71)) (96 + m0) (nI y0)) (144 + m0) (nI n90))) := by rw [hw95]; exact set_eq k87
  have k99 : w94[17]? = some (iA E (a 17) 11 g47) := by rw [hw95]; exact set_ne k88 (by decide)
  have kp100 := keeps_set kp89 hw95 (by first | exact rfl | decide | omega | (dsimp only; omega))
  refine x_aload_n C dX12_lays_91 rfl 3 rfl rfl ?_
  refine x_get C (ci := 11) (k := 0) 0 k97 rfl in_X12 (by decide) w_1118 rfl dX12_lays_92 rfl ?_
  refine x_sipush C (v := 192) dX12_lays_95 (by decide) rfl ?_
  refine x_iload C dX12_lays_98 0 rfl rfl ?_
  refine x_iadd C (v := (nI (192 + m0))) dX12_lays_100 (nI_add 192 m0) rfl ?_
  refine x_iconst C (v := 0) dX12_lays_101 (by decide) rfl ?_
  have pf101 : NB jn (upd (upd (upd (upd (upd (upd fn 380 v35) (0 + m0) (nI m56)) (48 + m0) (nI n71)) (96 + m0) (nI y0)) (144 + m0) (nI n90)) (192 + m0) (0 : Int32)) := NB_free pf93 (by unfold bd; omega)
  obtain ⟨w102, hw103⟩ : ∃ w : va_W, w = List.set w94 1 (iA E (a 1) 382 (upd (upd (upd (upd (upd (upd fn 380 v35) (0 + m0) (nI m56)) (48 + m0) (nI n71)) (96 + m0) (nI y0)) (144 + m0) (nI n90)) (192 + m0) (0 : Int32))) := ⟨_, rfl⟩
  refine x_iask C (192 + m0) (nI_clamp (by omega)) (nI_pos (by omega)) (by omega) 1 k98 hw103.symm dX12_lays_102 rfl ?_
  have hW104 : WX (okM E a cd kf jn js jq) w102 := by rw [hw103]; exact hW96.set (k := 1) rfl ⟨_, pf101, rfl⟩
  have k105 : w102[0]? = some (ob (a 0) 11 [.ref (a 1), .ref (a 2), .ref (a 3), .ref (a 4), .int (nI n2), .int (nI n4), .int (nI n6), .int v8, .int v9, .int v10, .int (nI n11), .int (nI n13), .int (nI n15), .int (nI (cd.2.2.2.2.2)), .ref (a 5), .ref (a 6), .ref (a 7), .ref (a 8), .ref (a 9), .ref (a 10), .ref (a 11), .ref (a 12), .ref (a 13), .ref (a 14), .ref (a 15), .ref (a 16), .ref (a 17), .int (nI n17), .ref (a 18), .ref (a 19), .ref (a 20), .ref (a 21), .int v19, .int v20, .int v21, .int v22, .int (nI n23), .int (nI n25), .ref (a 22), .ref (a 23), .ref (a 24), .ref (a 25), .ref (a 26), .ref (a 27), .ref (a 28), .ref (a 29), .ref (a 30), .int kf]) := by rw [hw103]; exact set_ne k97 (by decide)
  have k106 : w102[1]? = some (iA E (a 1) 382 (upd (upd (upd (upd (upd (upd fn 380 v35) (0 + m0) (nI m56)) (48 + m0) (nI n71)) (96 + m0) (nI y0)) (144 + m0) (nI n90)) (192 + m0) (0 : Int32))) := by rw [hw103]; exact set_eq k98
  have k107 : w102[17]? = some (iA E (a 17) 11 g47) := by rw [hw103]; exact set_ne k99 (by decide)
  have kp108 := keeps_set kp100 hw103 (by first | exact rfl | decide | omega | (dsimp only; omega))
  refine x_aload_n C dX12_lays_103 rfl 3 rfl rfl ?_
  refine x_get C (ci := 11) (k := 0) 0 k105 rfl in_X12 (by decide) w_1118 rfl dX12_lays_104 rfl ?_
  refine x_sipush C (v := 240) dX12_lays_107 (by decide) rfl ?_
  refine x_iload C dX12_lays_110 0 rfl rfl ?_
  refine x_iadd C (v := (nI (240 + m0))) dX12_lays_112 (nI_add 240 m0) rfl ?_
  refine x_iconst C (v := 0) dX12_lays_113 (by decide) rfl ?_
  have pf109 : NB jn (upd (upd (upd (upd (upd (upd (upd fn 380 v35) (0 + m0) (nI m56)) (48 + m0) (nI n71)) (96 + m0) (nI y0)) (144 + m0) (nI n90)) (192 + m0) (0 : Int32)) (240 + m0) (0 : Int32)) := NB_free pf101 (by unfold bd; omega)
  obtain ⟨w110, hw111⟩ : ∃ w : va_W, w = List.set w102 1 (iA E (a 1) 382 (upd (upd (upd (upd (upd (upd (upd fn 380 v35) (0 + m0) (nI m56)) (48 + m0) (nI n71)) (96 + m0) (nI y0)) (144 + m0) (nI n90)) (192 + m0) (0 : Int32)) (240 + m0) (0 : Int32))) := ⟨_, rfl⟩
  refine x_iask C (240 + m0) (nI_clamp (by omega)) (nI_pos (by omega)) (by omega) 1 k106 hw111.symm dX12_lays_114 rfl ?_
  have hW112 : WX (okM E a cd kf jn js jq) w110 := by rw [hw111]; exact hW104.set (k := 1) rfl ⟨_, pf109, rfl⟩
  have k113 : w110[0]? = some (ob (a 0) 11 [.ref (a 1), .ref (a 2), .ref (a 3), .ref (a 4), .int (nI n2), .int (nI n4), .int (nI n6), .int v8, .int v9, .int v10, .int (nI n11), .int (nI n13), .int (nI n15), .int (nI (cd.2.2.2.2.2)), .ref (a 5), .ref (a 6), .ref (a 7), .ref (a 8), .ref (a 9), .ref (a 10), .ref (a 11), .ref (a 12), .ref (a 13), .ref (a 14), .ref (a 15), .ref (a 16), .ref (a 17), .int (nI n17), .ref (a 18), .ref (a 19), .ref (a 20), .ref (a 21), .int v19, .int v20, .int v21, .int v22, .int (nI n23), .int (nI n25), .ref (a 22), .ref (a 23), .ref (a 24), .ref (a 25), .ref (a 26), .ref (a 27), .ref (a 28), .ref (a 29), .ref (a 30), .int kf]) := by rw [hw111]; exact set_ne k105 (by decide)
  have k114 : w110[1]? = some (iA E (a 1) 382 (upd (upd (upd (upd (upd (upd (upd fn 380 v35) (0 + m0) (nI m56)) (48 + m0) (nI n71)) (96 + m0) (nI y0)) (144 + m0) (nI n90)) (192 + m0) (0 : Int32)) (240 + m0) (0 : Int32))) := by rw [hw111]; exact set_eq k106
  have k115 : w110[17]? = some (iA E (a 17) 11 g47) := by rw [hw111]; exact set_ne k107 (by decide)
  have kp116 := keeps_set kp108 hw111 (by first | exact rfl | decide | omega | (dsimp only; omega))
  refine x_aload_n C dX12_lays_115 rfl 3 rfl rfl ?_
  refine x_get C (ci := 11) (k := 0) 0 k113 rfl in_X12 (by decide) w_1118 rfl dX12_lays_116 rfl ?_
  refine x_sipush C (v := 381) dX12_lays_119 (by decide) rfl ?_
  refine x_iload C dX12_lays_122 0 rfl rfl ?_
  refine x_iconst C (v := 1) dX12_lays_124 (by decide) rfl ?_
  refine x_iadd C (v := (nI (m0 + 1))) dX12_lays_125 (nI_add m0 1) rfl ?_
  have pf117 : NB jn (upd (upd (upd (upd (upd (upd (upd (upd fn 380 v35) (0 + m0) (nI m56)) (48 + m0) (nI n71)) (96 + m0) (nI y0)) (144 + m0) (nI n90)) (192 + m0) (0 : Int32)) (240 + m0) (0 : Int32)) 381 (nI (m0 + 1))) := NB_put_many pf109 (by omega)
  obtain ⟨w118, hw119⟩ : ∃ w : va_W, w = List.set w110 1 (iA E (a 1) 382 (upd (upd (upd (upd (upd (upd (upd (upd fn 380 v35) (0 + m0) (nI m56)) (48 + m0) (nI n71)) (96 + m0) (nI y0)) (144 + m0) (nI n90)) (192 + m0) (0 : Int32)) (240 + m0) (0 : Int32)) 381 (nI (m0 + 1)))) := ⟨_, rfl⟩
  refine x_iask C 381 (by decide) (by decide) (by decide) 1 k114 hw119.symm dX12_lays_126 rfl ?_
  have hW120 : WX (okM E a cd kf jn js jq) w118 := by rw [hw119]; exact hW112.set (k := 1) rfl ⟨_, pf117, rfl⟩
  have k121 : w118[0]? = some (ob (a 0) 11 [.ref (a 1), .ref (a 2), .ref (a 3), .ref (a 4), .int (nI n2), .int (nI n4), .int (nI n6), .int v8, .int v9, .int v10, .int (nI n11), .int (nI n13), .int (nI n15), .int (nI (cd.2.2.2.2.2)), .ref (a 5), .ref (a 6), .ref (a 7), .ref (a 8), .ref (a 9), .ref (a 10), .ref (a 11), .ref (a 12), .ref (a 13), .ref (a 14), .ref (a 15), .ref (a 16), .ref (a 17), .int (nI n17), .ref (a 18), .ref (a 19), .ref (a 20), .ref (a 21), .int v19, .int v20, .int v21, .int v22, .int (nI n23), .int (nI n25), .ref (a 22), .ref (a 23), .ref (a 24), .ref (a 25), .ref (a 26), .ref (a 27), .ref (a 28), .ref (a 29), .ref (a 30), .int kf]) := by rw [hw119]; exact set_ne k113 (by decide)
  have k122 : w118[1]? = some (iA E (a 1) 382 (upd (upd (upd (upd (upd (upd (upd (upd fn 380 v35) (0 + m0) (nI m56)) (48 + m0) (nI n71)) (96 + m0) (nI y0)) (144 + m0) (nI n90)) (192 + m0) (0 : Int32)) (240 + m0) (0 : Int32)) 381 (nI (m0 + 1)))) := by rw [hw119]; exact set_eq k114
  have k123 : w118[17]? = some (iA E (a 17) 11 g47) := by rw [hw119]; exact set_ne k115 (by decide)
  have kp124 := keeps_set kp116 hw119 (by first | exact rfl | decide | omega | (dsimp only; omega))
  refine x_aload_n C dX12_lays_127 rfl 3 rfl rfl ?_
  refine x_get C (ci := 11) (k := 0) 0 k121 rfl in_X12 (by decide) w_1118 rfl dX12_lays_128 rfl ?_
  refine x_sipush C (v := 296) dX12_lays_131 (by decide) rfl ?_
  refine x_aload_n C dX12_lays_134 rfl 3 rfl rfl ?_
  refine x_get C (ci := 11) (k := 0) 0 k121 rfl in_X12 (by decide) w_1118 rfl dX12_lays_135 rfl ?_
  refine x_sipush C (v := 329) dX12_lays_138 (by decide) rfl ?_
  refine x_iload_n C dX12_lays_141 rfl 4 rfl rfl ?_
  refine x_iadd C (v := (nI (329 + y0))) dX12_lays_142 (nI_add 329 y0) rfl ?_
  obtain ⟨n125, hn126, en127⟩ := NB_kp (j := y0) pf117 (by omega)
  refine x_ialk C (v := nI n125) (329 + y0) (nI_clamp (by omega)) (nI_pos (by omega)) (by omega) 1 k122 en127 dX12_lays_143 rfl ?_
  refine x_iadd C (v := (nI (296 + n125))) dX12_lays_144 (nI_add 296 n125) rfl ?_
  refine x_aload_n C dX12_lays_145 rfl 3 rfl rfl ?_
  refine x_get C (ci := 11) (k := 0) 0 k121 rfl in_X12 (by decide) w_1118 rfl dX12_lays_146 rfl ?_
  refine x_sipush C (v := 296) dX12_lays_149 (by decide) rfl ?_
  refine x_aload_n C dX12_lays_152 rfl 3 rfl rfl ?_
  refine x_get C (ci := 11) (k := 0) 0 k121 rfl in_X12 (by decide) w_1118 rfl dX12_lays_153 rfl ?_
  refine x_sipush C (v := 329) dX12_lays_156 (by decide) rfl ?_
  refine x_iload_n C dX12_lays_159 rfl 4 rfl rfl ?_
  refine x_iadd C (v := (nI (329 + y0))) dX12_lays_160 (nI_add 329 y0) rfl ?_
  refine x_ialk C (v := nI n125) (329 + y0) (nI_clamp (by omega)) (nI_pos (by omega)) (by omega) 1 k122 en127 dX12_lays_161 rfl ?_
  refine x_iadd C (v := (nI (296 + n125))) dX12_lays_162 (nI_add 296 n125) rfl ?_
  refine x_iald C (v := ((upd (upd (upd (upd (upd (upd (upd (upd fn 380 v35) (0 + m0) (nI m56)) (48 + m0) (nI n71)) (96 + m0) (nI y0)) (144 + m0) (nI n90)) (192 + m0) (0 : Int32)) (240 + m0) (0 : Int32)) 381 (nI (m0 + 1))) (nI (296 + n125)).toNatClampNeg)) 1 k122 (vp_in_nI (by omega) (by decide)) rfl dX12_lays_163 rfl ?_
  refine x_any (fun v131 => ?_)
  refine x_iload_n C dX12_lays_164 rfl 1 rfl rfl ?_
  refine x_iadd C (v := (v131 + (nI m56))) dX12_lays_165 rfl rfl ?_
  refine x_any (fun v132 => ?_)
  have pf133 : NB jn (upd (upd (upd (upd (upd (upd (upd (upd (upd fn 380 v35) (0 + m0) (nI m56)) (48 + m0) (nI n71)) (96 + m0) (nI y0)) (144 + m0) (nI n90)) (192 + m0) (0 : Int32)) (240 + m0) (0 : Int32)) 381 (nI (m0 + 1))) (296 + n125) v132) := NB_free pf117 (by unfold bd; omega)
  obtain ⟨w134, hw135⟩ : ∃ w : va_W, w = List.set w118 1 (iA E (a 1) 382 (upd (upd (upd (upd (upd (upd (upd (upd (upd fn 380 v35) (0 + m0) (nI m56)) (48 + m0) (nI n71)) (96 + m0) (nI y0)) (144 + m0) (nI n90)) (192 + m0) (0 : Int32)) (240 + m0) (0 : Int32)) 381 (nI (m0 + 1))) (296 + n125) v132)) := ⟨_, rfl⟩
  refine x_iask C (296 + n125) (nI_clamp (by omega)) (nI_pos (by omega)) (by omega) 1 k122 hw135.symm dX12_lays_166 rfl ?_
  have hW136 : WX (okM E a cd kf jn js jq) w134 := by rw [hw135]; exact hW120.set (k := 1) rfl ⟨_, pf133, rfl⟩
  have k137 : w134[0]? = some (ob (a 0) 11 [.ref (a 1), .ref (a 2), .ref (a 3), .ref (a 4), .int (nI n2), .int (nI n4), .int (nI n6), .int v8, .int v9, .int v10, .int (nI n11), .int (nI n13), .int (nI n15), .int (nI (cd.2.2.2.2.2)), .ref (a 5), .ref (a 6), .ref (a 7), .ref (a 8), .ref (a 9), .ref (a 10), .ref (a 11), .ref (a 12), .ref (a 13), .ref (a 14), .ref (a 15), .ref (a 16), .ref (a 17), .int (nI n17), .ref (a 18), .ref (a 19), .ref (a 20), .ref (a 21), .int v19, .int v20, .int v21, .int v22, .int (nI n23), .int (nI n25), .ref (a 22), .ref (a 23), .ref (a 24), .ref (a 25), .ref (a 26), .ref (a 27), .ref (a 28), .ref (a 29), .ref (a 30), .int kf]) := by rw [hw135]; exact set_ne k121 (by decide)
  have k138 : w134[1]? = some (iA E (a 1) 382 (upd (upd (upd (upd (upd (upd (upd (upd (upd fn 380 v35) (0 + m0) (nI m56)) (48 + m0) (nI n71)) (96 + m0) (nI y0)) (144 + m0) (nI n90)) (192 + m0) (0 : Int32)) (240 + m0) (0 : Int32)) 381 (nI (m0 + 1))) (296 + n125) v132)) := by rw [hw135]; exact set_eq k122
  have k139 : w134[17]? = some (iA E (a 17) 11 g47) := by rw [hw135]; exact set_ne k123 (by decide)
  have kp140 := keeps_set kp124 hw135 (by first | exact rfl | decide | omega | (dsimp only; omega))
  refine x_aload_n C dX12_lays_167 rfl 3 rfl rfl ?_
  refine x_aload_n C dX12_lays_168 rfl 3 rfl rfl ?_
  refine x_get C (ci := 11) (k := 32) 0 k137 rfl in_X12 (by decide) w_1150 rfl dX12_lays_169 rfl ?_
  refine x_iconst C (v := 1) dX12_lays_172 (by decide) rfl ?_
  refine x_iadd C (v := (v19 + (1 : Int32))) dX12_lays_173 rfl rfl ?_
  refine x_any (fun v141 => ?_)
  obtain ⟨w142, hw143⟩ : ∃ w : va_W, w = List.set w134 0 (ob (a 0) 11 [.ref (a 1), .ref (a 2), .ref (a 3), .ref (a 4), .int (nI n2), .int (nI n4), .int (nI n6), .int v8, .int v9, .int v10, .int (nI n11), .int (nI n13), .int (nI n15), .int (nI (cd.2.2.2.2.2)), .ref (a 5), .ref (a 6), .ref (a 7), .ref (a 8), .ref (a 9), .ref (a 10), .ref (a 11), .ref (a 12), .ref (a 13), .ref (a 14), .ref (a 15), .ref (a 16), .ref (a 17), .int (nI n17), .ref (a 18), .ref (a 19), .ref (a 20), .ref (a 21), .int v141, .int v20, .int v21, .int v22, .int (nI n23), .int (nI n25), .ref (a 22), .ref (a 23), .ref (a 24), .ref (a 25), .ref (a 26), .ref (a 27), .ref (a 28), .ref (a 29), .ref (a 30), .int kf]) := ⟨_, rfl⟩
  refine x_put C (ci := 11) (k := 32) (ty := .int) 0 k137 rfl in_X12 tyX12 tyX12_ok nmX12 (by decide) w_1150 rfl rfl rfl rfl (Nat.le_of_ble_eq_true rfl) hw143.symm dX12_lays_174 rfl ?_
  have hW144 : WX (okM E a cd kf jn js jq) w142 := by rw [hw143]; exact hW136.set (k := 0) rfl ⟨n2, n4, n6, v8, v9, v10, n11, n13, n15, n17, v141, v20, v21, v22, n23, n25, by omega, by omega, by omega, by omega, by omega, by omega, by omega, by omega, by omega, rfl⟩
  have k145 : w142[0]? = some (ob (a 0) 11 [.ref (a 1), .ref (a 2), .ref (a 3), .ref (a 4), .int (nI n2), .int (nI n4), .int (nI n6), .int v8, .int v9, .int v10, .int (nI n11), .int (nI n13), .int (nI n15), .int (nI (cd.2.2.2.2.2)), .ref (a 5), .ref (a 6), .ref (a 7), .ref (a 8), .ref (a 9), .ref (a 10), .ref (a 11), .ref (a 12), .ref (a 13), .ref (a 14), .ref (a 15), .ref (a 16), .ref (a 17), .int (nI n17), .ref (a 18), .ref (a 19), .ref (a 20), .ref (a 21), .int v141, .int v20, .int v21, .int v22, .int (nI n23), .int (nI n25), .ref (a 22), .ref (a 23), .ref (a 24), .ref (a 25), .ref (a 26), .ref (a 27), .ref (a 28), .ref (a 29), .ref (a 30), .int kf]) := by rw [hw143]; exact set_eq k137
  have k146 : w142[1]? = some (iA E (a 1) 382 (upd (upd (upd (upd (upd (upd (upd (upd (upd fn 380 v35) (0 + m0) (nI m56)) (48 + m0) (nI n71)) (96 + m0) (nI y0)) (144 + m0) (nI n90)) (192 + m0) (0 : Int32)) (240 + m0) (0 : Int32)) 381 (nI (m0 + 1))) (296 + n125) v132)) := by rw [hw143]; exact set_ne k138 (by decide)
  have k147 : w142[17]? = some (iA E (a 17) 11 g47) := by rw [hw143]; exact set_ne k139 (by decide)
  have kp148 := keeps_set kp140 hw143 (by first | exact rfl | decide | omega | (dsimp only; omega))
  refine x_aload_n C dX12_lays_177 rfl 3 rfl rfl ?_
  refine x_aload_n C dX12_lays_178 rfl 3 rfl rfl ?_
  refine x_get C (ci := 11) (k := 33) 0 k145 rfl in_X12 (by decide) w_1151 rfl dX12_lays_179 rfl ?_
  refine x_iload_n C dX12_lays_182 rfl 1 rfl rfl ?_
  refine x_iadd C (v := (v20 + (nI m56))) dX12_lays_183 rfl rfl ?_
  refine x_any (fun v149 => ?_)
  obtain ⟨w150, hw151⟩ : ∃ w : va_W, w = List.set w142 0 (ob (a 0) 11 [.ref (a 1), .ref (a 2), .ref (a 3), .ref (a 4), .int (nI n2), .int (nI n4), .int (nI n6), .int v8, .int v9, .int v10, .int (nI n11), .int (nI n13), .int (nI n15), .int (nI (cd.2.2.2.2.2)), .ref (a 5), .ref (a 6), .ref (a 7), .ref (a 8), .ref (a 9), .ref (a 10), .ref (a 11), .ref (a 12), .ref (a 13), .ref (a 14), .ref (a 15), .ref (a 16), .ref (a 17), .int (nI n17), .ref (a 18), .ref (a 19), .ref (a 20), .ref (a 21), .int v141, .int v149, .int v21, .int v22, .int (nI n23), .int (nI n25), .ref (a 22), .ref (a 23), .ref (a 24), .ref (a 25), .ref (a 26), .ref (a 27), .ref (a 28), .ref (a 29), .ref (a 30), .int kf]) := ⟨_, rfl⟩
  refine x_put C (ci := 11) (k := 33) (ty := .int) 0 k145 rfl in_X12 tyX12 tyX12_ok nmX12 (by decide) w_1151 rfl rfl rfl rfl (Nat.le_of_ble_eq_true rfl) hw151.symm dX12_lays_184 rfl ?_
  have hW152 : WX (okM E a cd kf jn js jq) w150 := by rw [hw151]; exact hW144.set (k := 0) rfl ⟨n2, n4, n6, v8, v9, v10, n11, n13, n15, n17, v141, v149, v21, v22, n23, n25, by omega, by omega, by omega, by omega, by omega, by omega, by omega, by omega, by omega, rfl⟩
  have k153 : w150[0]? = some (ob (a 0) 11 [.ref (a 1), .ref (a 2), .ref (a 3), .ref (a 4), .int (nI n2), .int (nI n4), .int (nI n6), .int v8, .int v9, .int v10, .int (nI n11), .int (nI n13), .int (nI n15), .int (nI (cd.2.2.2.2.2)), .ref (a 5), .ref (a 6), .ref (a 7), .ref (a 8), .ref (a 9), .ref (a 10), .ref (a 11), .ref (a 12), .ref (a 13), .ref (a 14), .ref (a 15), .ref (a 16), .ref (a 17), .int (nI n17), .ref (a 18), .ref (a 19), .ref (a 20), .ref (a 21), .int v141, .int v149, .int v21, .int v22, .int (nI n23), .int (nI n25), .ref (a 22), .ref (a 23), .ref (a 24), .ref (a 25), .ref (a 26), .ref (a 27), .ref (a 28), .ref (a 29), .ref (a 30), .int kf]) := by rw [hw151]; exact set_eq k145
  have k154 : w150[1]? = some (iA E (a 1) 382 (upd (upd (upd (upd (upd (upd (upd (upd (upd fn 380 v35) (0 + m0) (nI m56)) (48 + m0) (nI n71)) (96 + m0) (nI y0)) (144 + m0) (nI n90)) (192 + m0) (0 : Int32)) (240 + m0) (0 : Int32)) 381 (nI (m0 + 1))) (296 + n125) v132)) := by rw [hw151]; exact set_ne k146 (by decide)
  have k155 : w150[17]? = some (iA E (a 17) 11 g47) := by rw [hw151]; exact set_ne k147 (by decide)
  have kp156 := keeps_set kp148 hw151 (by first | exact rfl | decide | omega | (dsimp only; omega))
  exact x_vret C hr hlk dX12_lays_187 ⟨hW152, kp156, (dyK_of hfn k154 pf133 (by repeat rw [pk_un (by omega)]))⟩
theorem dX12_dayGoes_0 : decode cX12_dayGoes 0 = .ok (.iconst 0, 1) := by decide +kernel
theorem dX12_dayGoes_1 : decode cX12_dayGoes 1 = .ok (.istore_n 1, 1) := by decide +kernel
theorem dX12_dayGoes_2 : decode cX12_dayGoes 2 = .ok (.iload_n 1, 1) := by decide +kernel
theorem dX12_dayGoes_3 : decode cX12_dayGoes 3 = .ok (.bipush 8, 2) := by decide +kernel
theorem dX12_dayGoes_5 : decode cX12_dayGoes 5 = .ok (.if_icmp .ge 74, 3) := by decide +kernel
theorem dX12_dayGoes_8 : decode cX12_dayGoes 8 = .ok (.aload_n 0, 1) := by decide +kernel
theorem dX12_dayGoes_9 : decode cX12_dayGoes 9 = .ok (.iload_n 1, 1) := by decide +kernel
theorem dX12_dayGoes_10 : decode cX12_dayGoes 10 = .ok (.invokevirtual 116, 3) := by decide +kernel
theorem dX12_dayGoes_13 : decode cX12_dayGoes 13 = .ok (.ifCond .ne 6, 3) := by decide +kernel
theorem dX12_dayGoes_16 : decode cX12_dayGoes 16 = .ok (.goto 57, 3) := by decide +kernel
theorem dX12_dayGoes_19 : decode cX12_dayGoes 19 = .ok (.aload_n 0, 1) := by decide +kernel
theorem dX12_dayGoes_20 : decode cX12_dayGoes 20 = .ok (.invokevirtual 304, 3) := by decide +kernel
theorem dX12_dayGoes_23 : decode cX12_dayGoes 23 = .ok (.istore_n 2, 1) := by decide +kernel
theorem dX12_dayGoes_24 : decode cX12_dayGoes 24 = .ok (.aload_n 0, 1) := by decide +kernel
theorem dX12_dayGoes_25 : decode cX12_dayGoes 25 = .ok (.iload_n 1, 1) := by decide +kernel
theorem dX12_dayGoes_26 : decode cX12_dayGoes 26 = .ok (.iconst 0, 1) := by decide +kernel
theorem dX12_dayGoes_27 : decode cX12_dayGoes 27 = .ok (.invokevirtual 307, 3) := by decide +kernel
theorem dX12_dayGoes_30 : decode cX12_dayGoes 30 = .ok (.iload_n 2, 1) := by decide +kernel
theorem dX12_dayGoes_31 : decode cX12_dayGoes 31 = .ok (.aload_n 0, 1) := by decide +kernel
theorem dX12_dayGoes_32 : decode cX12_dayGoes 32 = .ok (.bipush 102, 2) := by decide +kernel
theorem dX12_dayGoes_34 : decode cX12_dayGoes 34 = .ok (.bipush 10, 2) := by decide +kernel
theorem dX12_dayGoes_36 : decode cX12_dayGoes 36 = .ok (.invokevirtual 240, 3) := by decide +kernel
theorem dX12_dayGoes_39 : decode cX12_dayGoes 39 = .ok (.if_icmp .ge 16, 3) := by decide +kernel
theorem dX12_dayGoes_42 : decode cX12_dayGoes 42 = .ok (.aload_n 0, 1) := by decide +kernel
theorem dX12_dayGoes_43 : decode cX12_dayGoes 43 = .ok (.aload_n 0, 1) := by decide +kernel
theorem dX12_dayGoes_44 : decode cX12_dayGoes 44 = .ok (.getfield 316, 3) := by decide +kernel
theorem dX12_dayGoes_47 : decode cX12_dayGoes 47 = .ok (.iconst 1, 1) := by decide +kernel
theorem dX12_dayGoes_48 : decode cX12_dayGoes 48 = .ok (.iadd, 1) := by decide +kernel
theorem dX12_dayGoes_49 : decode cX12_dayGoes 49 = .ok (.putfield 316, 3) := by decide +kernel
theorem dX12_dayGoes_52 : decode cX12_dayGoes 52 = .ok (.goto 21, 3) := by decide +kernel
theorem dX12_dayGoes_55 : decode cX12_dayGoes 55 = .ok (.aload_n 0, 1) := by decide +kernel
theorem dX12_dayGoes_56 : decode cX12_dayGoes 56 = .ok (.getfield 7, 3) := by decide +kernel
theorem dX12_dayGoes_59 : decode cX12_dayGoes 59 = .ok (.sipush 381, 3) := by decide +kernel
theorem dX12_dayGoes_62 : decode cX12_dayGoes 62 = .ok (.iaload, 1) := by decide +kernel
theorem dX12_dayGoes_63 : decode cX12_dayGoes 63 = .ok (.bipush 48, 2) := by decide +kernel
theorem dX12_dayGoes_65 : decode cX12_dayGoes 65 = .ok (.if_icmp .ge 8, 3) := by decide +kernel
theorem dX12_dayGoes_68 : decode cX12_dayGoes 68 = .ok (.aload_n 0, 1) := by decide +kernel
theorem dX12_dayGoes_69 : decode cX12_dayGoes 69 = .ok (.iload_n 1, 1) := by decide +kernel
theorem dX12_dayGoes_70 : decode cX12_dayGoes 70 = .ok (.invokevirtual 319, 3) := by decide +kernel
theorem dX12_dayGoes_73 : decode cX12_dayGoes 73 = .ok (.iinc 1 1, 3) := by decide +kernel
theorem dX12_dayGoes_76 : decode cX12_dayGoes 76 = .ok (.goto (-74), 3) := by decide +kernel
theorem dX12_dayGoes_79 : decode cX12_dayGoes 79 = .ok (.iconst 0, 1) := by decide +kernel
theorem dX12_dayGoes_80 : decode cX12_dayGoes 80 = .ok (.istore_n 1, 1) := by decide +kernel
theorem dX12_dayGoes_81 : decode cX12_dayGoes 81 = .ok (.iload_n 1, 1) := by decide +kernel
theorem dX12_dayGoes_82 : decode cX12_dayGoes 82 = .ok (.aload_n 0, 1) := by decide +kernel
theorem dX12_dayGoes_83 : decode cX12_dayGoes 83 = .ok (.getfield 7, 3) := by decide +kernel
theorem dX12_dayGoes_86 : decode cX12_dayGoes 86 = .ok (.sipush 381, 3) := by decide +kernel
theorem dX12_dayGoes_89 : decode cX12_dayGoes 89 = .ok (.iaload, 1) := by decide +kernel
theorem dX12_dayGoes_90 : decode cX12_dayGoes 90 = .ok (.if_icmp .ge 76, 3) := by decide +kernel
theorem dX12_dayGoes_93 : decode cX12_dayGoes 93 = .ok (.aload_n 0, 1) := by decide +kernel
theorem dX12_dayGoes_94 : decode cX12_dayGoes 94 = .ok (.iload_n 1, 1) := by decide +kernel
theorem dX12_dayGoes_95 : decode cX12_dayGoes 95 = .ok (.invokevirtual 268, 3) := by decide +kernel
theorem dX12_dayGoes_98 : decode cX12_dayGoes 98 = .ok (.ifCond .ne 6, 3) := by decide +kernel
theorem dX12_dayGoes_101 : decode cX12_dayGoes 101 = .ok (.goto 59, 3) := by decide +kernel
theorem dX12_dayGoes_104 : decode cX12_dayGoes 104 = .ok (.aload_n 0, 1) := by decide +kernel
theorem dX12_dayGoes_105 : decode cX12_dayGoes 105 = .ok (.iload_n 1, 1) := by decide +kernel
theorem dX12_dayGoes_106 : decode cX12_dayGoes 106 = .ok (.invokevirtual 243, 3) := by decide +kernel
theorem dX12_dayGoes_109 : decode cX12_dayGoes 109 = .ok (.istore_n 2, 1) := by decide +kernel
theorem dX12_dayGoes_110 : decode cX12_dayGoes 110 = .ok (.iload_n 2, 1) := by decide +kernel
theorem dX12_dayGoes_111 : decode cX12_dayGoes 111 = .ok (.ifCond .eq 49, 3) := by decide +kernel
theorem dX12_dayGoes_114 : decode cX12_dayGoes 114 = .ok (.aload_n 0, 1) := by decide +kernel
theorem dX12_dayGoes_115 : decode cX12_dayGoes 115 = .ok (.getfield 7, 3) := by decide +kernel
theorem dX12_dayGoes_118 : decode cX12_dayGoes 118 = .ok (.sipush 379, 3) := by decide +kernel
theorem dX12_dayGoes_121 : decode cX12_dayGoes 121 = .ok (.iaload, 1) := by decide +kernel
theorem dX12_dayGoes_122 : decode cX12_dayGoes 122 = .ok (.aload_n 0, 1) := by decide +kernel
theorem dX12_dayGoes_123 : decode cX12_dayGoes 123 = .ok (.getfield 7, 3) := by decide +kernel
theorem dX12_dayGoes_126 : decode cX12_dayGoes 126 = .ok (.bipush 48, 2) := by decide +kernel
theorem dX12_dayGoes_128 : decode cX12_dayGoes 128 = .ok (.iload_n 1, 1) := by decide +kernel
theorem dX12_dayGoes_129 : decode cX12_dayGoes 129 = .ok (.iadd, 1) := by decide +kernel
theorem dX12_dayGoes_130 : decode cX12_dayGoes 130 = .ok (.iaload, 1) := by decide +kernel
theorem dX12_dayGoes_131 : decode cX12_dayGoes 131 = .ok (.isub, 1) := by decide +kernel
theorem dX12_dayGoes_132 : decode cX12_dayGoes 132 = .ok (.iload_n 2, 1) := by decide +kernel
theorem dX12_dayGoes_133 : decode cX12_dayGoes 133 = .ok (.if_icmp .ge 6, 3) := by decide +kernel
theorem dX12_dayGoes_136 : decode cX12_dayGoes 136 = .ok (.goto 24, 3) := by decide +kernel
theorem dX12_dayGoes_139 : decode cX12_dayGoes 139 = .ok (.aload_n 0, 1) := by decide +kernel
theorem dX12_dayGoes_140 : decode cX12_dayGoes 140 = .ok (.getfield 7, 3) := by decide +kernel
theorem dX12_dayGoes_143 : decode cX12_dayGoes 143 = .ok (.sipush 240, 3) := by decide +kernel
theorem dX12_dayGoes_146 : decode cX12_dayGoes 146 = .ok (.iload_n 1, 1) := by decide +kernel
theorem dX12_dayGoes_147 : decode cX12_dayGoes 147 = .ok (.iadd, 1) := by decide +kernel
theorem dX12_dayGoes_148 : decode cX12_dayGoes 148 = .ok (.iconst 2, 1) := by decide +kernel
theorem dX12_dayGoes_149 : decode cX12_dayGoes 149 = .ok (.iastore, 1) := by decide +kernel
theorem dX12_dayGoes_150 : decode cX12_dayGoes 150 = .ok (.aload_n 0, 1) := by decide +kernel
theorem dX12_dayGoes_151 : decode cX12_dayGoes 151 = .ok (.aload_n 0, 1) := by decide +kernel
theorem dX12_dayGoes_152 : decode cX12_dayGoes 152 = .ok (.getfield 322, 3) := by decide +kernel
theorem dX12_dayGoes_155 : decode cX12_dayGoes 155 = .ok (.iconst 1, 1) := by decide +kernel
theorem dX12_dayGoes_156 : decode cX12_dayGoes 156 = .ok (.iadd, 1) := by decide +kernel
theorem dX12_dayGoes_157 : decode cX12_dayGoes 157 = .ok (.putfield 322, 3) := by decide +kernel
theorem dX12_dayGoes_160 : decode cX12_dayGoes 160 = .ok (.iinc 1 1, 3) := by decide +kernel
theorem dX12_dayGoes_163 : decode cX12_dayGoes 163 = .ok (.goto (-82), 3) := by decide +kernel
theorem dX12_dayGoes_166 : decode cX12_dayGoes 166 = .ok (.aload_n 0, 1) := by decide +kernel
theorem dX12_dayGoes_167 : decode cX12_dayGoes 167 = .ok (.getfield 7, 3) := by decide +kernel
theorem dX12_dayGoes_170 : decode cX12_dayGoes 170 = .ok (.sipush 379, 3) := by decide +kernel
theorem dX12_dayGoes_173 : decode cX12_dayGoes 173 = .ok (.aload_n 0, 1) := by decide +kernel
theorem dX12_dayGoes_174 : decode cX12_dayGoes 174 = .ok (.getfield 7, 3) := by decide +kernel
theorem dX12_dayGoes_177 : decode cX12_dayGoes 177 = .ok (.sipush 379, 3) := by decide +kernel
theorem dX12_dayGoes_180 : decode cX12_dayGoes 180 = .ok (.iaload, 1) := by decide +kernel
theorem dX12_dayGoes_181 : decode cX12_dayGoes 181 = .ok (.iconst 1, 1) := by decide +kernel
theorem dX12_dayGoes_182 : decode cX12_dayGoes 182 = .ok (.iadd, 1) := by decide +kernel
theorem dX12_dayGoes_183 : decode cX12_dayGoes 183 = .ok (.iastore, 1) := by decide +kernel
theorem dX12_dayGoes_184 : decode cX12_dayGoes 184 = .ok (.return_, 1) := by decide +kernel
set_option maxRecDepth 20000 in
set_option maxHeartbeats 4000000 in
theorem m_dayGoes (E : xE) (l : Launch) (a : Nat → Nat) (cd : Cd) (hG : Good cd) (kf : Int32) (jn js jq : Lb) (ws : va_W) (hW : WX (okM E a cd kf jn js jq) ws) (fn : Nat → Int32) (hfn : ws[1]? = some (iA E (a 1) 382 fn)) (d0 : Nat) (hdl : d0 < 9999) (hd0 : fn 379 = nI d0) : xV E l yX12_dayGoes cX12_dayGoes 3 4 0 0 [.ref (a 0)] ws (fun w => WX (okM E a cd kf jn js jq) w ∧ keeps ws w (fun q => q = 0 ∨ q = 1 ∨ q = 16 ∨ q = 17)) := by
  refine xV_start (lv := [(0, .ref (a 0))]) RX12 (by decide) rfl (Nat.le_of_ble_eq_true rfl) rfl (fun p e s m below meth c A C hr hlk hin => ?_)
  have kp0 : keeps ws ws (fun q => q = 0 ∨ q = 1 ∨ q = 16 ∨ q = 17) := keeps_rf
  obtain ⟨_, kq1, fq, pfq, rfl⟩ := hW 1 _ rfl
  obtain rfl := iA_inj (hfn.symm.trans kq1)
  refine x_iconst C (v := 0) dX12_dayGoes_0 (by decide) rfl ?_
  refine x_istore_n C (lv' := [(1, .int 0), (0, .ref (a 0))]) dX12_dayGoes_1 rfl (by decide) rfl rfl ?_
  have loop2 : ∀ (fu2 : Nat) (y : Nat) (wl2 : va_W), WX (okM E a cd kf jn js jq) wl2 → 8 - y < fu2 → y ≤ 8 → (∃ f : Nat → Int32, wl2[1]? = some (iA E (a 1) 382 f) ∧ NB jn f ∧ f 379 = nI d0) → keeps ws wl2 (fun q => q = 0 ∨ q = 1 ∨ q = 16 ∨ q = 17) → X E p l e (xRm 4 0 0) s m ([.ref (a 0)] : List Value).toArray below meth c A 3 0 0 (MQ below (va_Qv (fun w => WX (okM E a cd kf jn js jq) w ∧ keeps ws w (fun q => q = 0 ∨ q = 1 ∨ q = 16 ∨ q = 17)) (xB E A) A) ([.ref (a 0)] : List Value).toArray s 0 0 A) wl2 2 [(0, .ref (a 0)), (1, .int (nI y))] [] := by
    intro fu2
    induction fu2 with
    | zero => intro y wl2 _ q; omega
    | succ fu2 ih2 =>
      intro y wl2 hWl2 me2 iv2_0 iv2_1 kq2
      obtain ⟨f1, k2, pf3, ed4⟩ := iv2_1
      refine x_iload_n C dX12_dayGoes_2 rfl 1 rfl rfl ?_
      refine x_bipush C (v := 8) dX12_dayGoes_3 (by decide) rfl ?_
      refine x_icmp_ge C (tgt := 79) dX12_dayGoes_5 (by decide) rfl (fun c5 => ?_) (fun c5 => ?_)
      · skip
        have nf6 := nI_le' (a := 8) (b := y) c5 (by omega) (by omega)
        refine x_iconst C (v := 0) dX12_dayGoes_79 (by decide) rfl ?_
        refine x_istore_n C (lv' := [(1, .int 0), (0, .ref (a 0))]) dX12_dayGoes_80 rfl (by decide) rfl rfl ?_
        have loop81 : ∀ (fu81 : Nat) (i : Nat) (wl81 : va_W), WX (okM E a cd kf jn js jq) wl81 → 48 - i < fu81 → i ≤ 48 → (∃ f : Nat → Int32, wl81[1]? = some (iA E (a 1) 382 f) ∧ NB jn f ∧ f 379 = nI d0) → keeps ws wl81 (fun q => q = 0 ∨ q = 1 ∨ q = 16 ∨ q = 17) → X E p l e (xRm 4 0 0) s m ([.ref (a 0)] : List Value).toArray below meth c A 3 0 0 (MQ below (va_Qv (fun w => WX (okM E a cd kf jn js jq) w ∧ keeps ws w (fun q => q = 0 ∨ q = 1 ∨ q = 16 ∨ q = 17)) (xB E A) A) ([.ref (a 0)] : List Value).toArray s 0 0 A) wl81 81 [(0, .ref (a 0)), (1, .int (nI i))] [] := by
          intro fu81
          induction fu81 with
          | zero => intro i wl81 _ q; omega
          | succ fu81 ih81 =>
            intro i wl81 hWl81 me81 iv81_0 iv81_1 kq81
            obtain ⟨f7, k8, pf9, ed10⟩ := iv81_1
            refine x_iload_n C dX12_dayGoes_81 rfl 1 rfl rfl ?_
            refine x_aload_n C dX12_dayGoes_82 rfl 0 rfl rfl ?_
            obtain ⟨_, k11, n12, n14, n16, v18, v19, v20, n21, n23, n25, n27, v29, v30, v31, v32, n33, n35, bn13, bn15, bn17, bn22, bn24, bn26, bn28, bn34, bn36, rfl⟩ := hWl81 0 _ rfl
            refine x_get C (ci := 11) (k := 0) 0 k11 rfl in_X12 (by decide) w_1118 rfl dX12_dayGoes_83 rfl ?_
            refine x_sipush C (v := 381) dX12_dayGoes_86 (by decide) rfl ?_
            obtain ⟨n37, hn38, en39⟩ := NB_many pf9
            refine x_ialk C (v := nI n37) 381 (by decide) (by decide) (by decide) 1 k8 en39 dX12_dayGoes_89 rfl ?_
            refine x_icmp_ge C (tgt := 166) dX12_dayGoes_90 (by decide) rfl (fun c40 => ?_) (fun c40 => ?_)
            · skip
              have nf41 := nI_le' (a := n37) (b := i) c40 (by omega) (by omega)
              refine x_aload_n C dX12_dayGoes_166 rfl 0 rfl rfl ?_
              refine x_get C (ci := 11) (k := 0) 0 k11 rfl in_X12 (by decide) w_1118 rfl dX12_dayGoes_167 rfl ?_
              refine x_sipush C (v := 379) dX12_dayGoes_170 (by decide) rfl ?_
              refine x_aload_n C dX12_dayGoes_173 rfl 0 rfl rfl ?_
              refine x_get C (ci := 11) (k := 0) 0 k11 rfl in_X12 (by decide) w_1118 rfl dX12_dayGoes_174 rfl ?_
              refine x_sipush C (v := 379) dX12_dayGoes_177 (by decide) rfl ?_
              refine x_ialk C (v := (f7 379)) 379 (by decide) (by decide) (by decide) 1 k8 rfl dX12_dayGoes_180 rfl ?_
              refine x_top (show f7 379 = nI d0 from by (repeat rw [pk_un (by omega)]); exact ed10) ?_
              refine x_iconst C (v := 1) dX12_dayGoes_181 (by decide) rfl ?_
              refine x_iadd C (v := (nI (d0 + 1))) dX12_dayGoes_182 (nI_add d0 1) rfl ?_
              have pf42 : NB jn (upd f7 379 (nI (d0 + 1))) := NB_put_day pf9 (by omega)
              obtain ⟨w43, hw44⟩ : ∃ w : va_W, w = List.set wl81 1 (iA E (a 1) 382 (upd f7 379 (nI (d0 + 1)))) := ⟨_, rfl⟩
              refine x_iask C 379 (by decide) (by decide) (by decide) 1 k8 hw44.symm dX12_dayGoes_183 rfl ?_
              have hW45 : WX (okM E a cd kf jn js jq) w43 := by rw [hw44]; exact hWl81.set (k := 1) rfl ⟨_, pf42, rfl⟩
              have k46 : w43[1]? = some (iA E (a 1) 382 (upd f7 379 (nI (d0 + 1)))) := by rw [hw44]; exact set_eq k8
              have k47 : w43[0]? = some (ob (a 0) 11 [.ref (a 1), .ref (a 2), .ref (a 3), .ref (a 4), .int (nI n12), .int (nI n14), .int (nI n16), .int v18, .int v19, .int v20, .int (nI n21), .int (nI n23), .int (nI n25), .int (nI (cd.2.2.2.2.2)), .ref (a 5), .ref (a 6), .ref (a 7), .ref (a 8), .ref (a 9), .ref (a 10), .ref (a 11), .ref (a 12), .ref (a 13), .ref (a 14), .ref (a 15), .ref (a 16), .ref (a 17), .int (nI n27), .ref (a 18), .ref (a 19), .ref (a 20), .ref (a 21), .int v29, .int v30, .int v31, .int v32, .int (nI n33), .int (nI n35), .ref (a 22), .ref (a 23), .ref (a 24), .ref (a 25), .ref (a 26), .ref (a 27), .ref (a 28), .ref (a 29), .ref (a 30), .int kf]) := by rw [hw44]; exact set_ne k11 (by decide)
              have kp48 := keeps_set kq81 hw44 (by first | exact rfl | decide | omega | (dsimp only; omega))
              exact x_vret C hr hlk dX12_dayGoes_184 ⟨hW45, kp48⟩
            · skip
              have nf49 := nI_nle' (a := n37) (b := i) c40 (by omega) (by omega)
              refine x_aload_n C dX12_dayGoes_93 rfl 0 rfl rfl ?_
              refine x_iload_n C dX12_dayGoes_94 rfl 1 rfl rfl ?_
              refine x_vi C (As := [.int (nI i)]) (rest := []) (m_isWhole E l a cd hG kf jn js jq wl81 hWl81 ((nI i))) mf_X12_isWhole w_1435 0 k11 rfl rfl rfl (Nat.le_of_ble_eq_true rfl) ⟨(Nat.le_of_ble_eq_true rfl), (Nat.le_of_ble_eq_true rfl)⟩ ⟨(Nat.le_of_ble_eq_true rfl), (Nat.le_of_ble_eq_true rfl)⟩ dX12_dayGoes_95 rfl (fun r51 w52 h50 => ?_)
              obtain ⟨hW53, zb54, x55⟩ := h50
              refine x_ws hW53 ?_
              refine x_if_ne C (tgt := 104) dX12_dayGoes_98 (by decide) rfl (fun c56 => ?_) (fun c56 => ?_)
              · skip
                have wi57 := wth_le (a := 0) (b := 47) (j := i) (x55 c56) (by omega) (by decide) (by decide)
                refine x_aload_n C dX12_dayGoes_104 rfl 0 rfl rfl ?_
                refine x_iload_n C dX12_dayGoes_105 rfl 1 rfl rfl ?_
                refine x_vi C (As := [.int (nI i)]) (rest := []) (m_badBehind E l a cd hG kf jn js jq wl81 hWl81 i (by omega)) mf_X12_badBehind w_1518 0 k11 rfl rfl rfl (Nat.le_of_ble_eq_true rfl) ⟨(Nat.le_of_ble_eq_true rfl), (Nat.le_of_ble_eq_true rfl)⟩ ⟨(Nat.le_of_ble_eq_true rfl), (Nat.le_of_ble_eq_true rfl)⟩ dX12_dayGoes_106 rfl (fun r59 w60 h58 => ?_)
                obtain ⟨hW61, kq62, ⟨m64, bm65, e63⟩⟩ := h58
                refine x_top e63 ?_
                have k66 : w60[1]? = some (iA E (a 1) 382 f7) := keeps_at kq62 k8 (by first | decide | omega | (dsimp only; omega))
                have k67 : w60[0]? = some (ob (a 0) 11 [.ref (a 1), .ref (a 2), .ref (a 3), .ref (a 4), .int (nI n12), .int (nI n14), .int (nI n16), .int v18, .int v19, .int v20, .int (nI n21), .int (nI n23), .int (nI n25), .int (nI (cd.2.2.2.2.2)), .ref (a 5), .ref (a 6), .ref (a 7), .ref (a 8), .ref (a 9), .ref (a 10), .ref (a 11), .ref (a 12), .ref (a 13), .ref (a 14), .ref (a 15), .ref (a 16), .ref (a 17), .int (nI n27), .ref (a 18), .ref (a 19), .ref (a 20), .ref (a 21), .int v29, .int v30, .int v31, .int v32, .int (nI n33), .int (nI n35), .ref (a 22), .ref (a 23), .ref (a 24), .ref (a 25), .ref (a 26), .ref (a 27), .ref (a 28), .ref (a 29), .ref (a 30), .int kf]) := keeps_at kq62 k11 (by first | decide | omega | (dsimp only; omega))
                have kp68 := keeps_tr kq81 kq62 (fun q hq => by first | omega | (dsimp only at *; omega))
                refine x_istore_n C (lv' := [(2, .int (nI m64)), (0, .ref (a 0)), (1, .int (nI i))]) dX12_dayGoes_109 rfl (by decide) rfl rfl ?_
                refine x_iload_n C dX12_dayGoes_110 rfl 0 rfl rfl ?_
                refine x_if_eq C (tgt := 160) dX12_dayGoes_111 (by decide) rfl (fun c69 => ?_) (fun c69 => ?_)
                · skip
                  have nf70 : m64 = 0 := (nI_eq (by omega) (by omega)).mp c69
                  refine x_iinc C (v := (nI (i + 1))) (lv' := [(1, .int (nI (i + 1))), (2, .int (nI m64)), (0, .ref (a 0))]) dX12_dayGoes_160 2 rfl (nI_add i 1) (by decide) rfl rfl ?_
                  refine x_goto C (tgt := 81) dX12_dayGoes_163 (by decide) ?_
                  refine x_lv (lv1 := [(0, .ref (a 0)), (1, .int (nI (i + 1)))]) [2, 0] rfl ?_
                  exact ih81 (i + 1) w60 hW61 (by omega) (by omega) ⟨_, k66, pf9, by (repeat rw [pk_un (by omega)]); exact ed10⟩ kp68
                · skip
                  have nf71 : ¬ m64 = 0 := fun q => c69 (congrArg nI q)
                  refine x_aload_n C dX12_dayGoes_114 rfl 1 rfl rfl ?_
                  refine x_get C (ci := 11) (k := 0) 0 k67 rfl in_X12 (by decide) w_1118 rfl dX12_dayGoes_115 rfl ?_
                  refine x_sipush C (v := 379) dX12_dayGoes_118 (by decide) rfl ?_
                  obtain ⟨n72, hn73, en74⟩ := NB_day pf9
                  refine x_ialk C (v := nI n72) 379 (by decide) (by decide) (by decide) 1 k66 en74 dX12_dayGoes_121 rfl ?_
                  refine x_aload_n C dX12_dayGoes_122 rfl 1 rfl rfl ?_
                  refine x_get C (ci := 11) (k := 0) 0 k67 rfl in_X12 (by decide) w_1118 rfl dX12_dayGoes_123 rfl ?_
                  refine x_bipush C (v := 48) dX12_dayGoes_126 (by decide) rfl ?_
                  refine x_iload_n C dX12_dayGoes_128 rfl 2 rfl rfl ?_
                  refine x_iadd C (v := (nI (48 + i))) dX12_dayGoes_129 (nI_add 48 i) rfl ?_
                  obtain ⟨n75, hn76, en77⟩ := NB_lo (j := i) pf9 (by omega)
                  refine x_ialk C (v := nI n75) (48 + i) (nI_clamp (by omega)) (nI_pos (by omega)) (by omega) 1 k66 en77 dX12_dayGoes_130 rfl ?_
                  refine x_isub C (v := ((nI n72) - (nI n75))) dX12_dayGoes_131 rfl rfl ?_
                  refine x_any (fun v78 => ?_)
                  refine x_iload_n C dX12_dayGoes_132 rfl 0 rfl rfl ?_
                  refine x_icmp_ge C (tgt := 139) dX12_dayGoes_133 (by decide) rfl (fun c79 => ?_) (fun c79 => ?_)
                  · skip
                    refine x_aload_n C dX12_dayGoes_139 rfl 1 rfl rfl ?_
                    refine x_get C (ci := 11) (k := 0) 0 k67 rfl in_X12 (by decide) w_1118 rfl dX12_dayGoes_140 rfl ?_
                    refine x_sipush C (v := 240) dX12_dayGoes_143 (by decide) rfl ?_
                    refine x_iload_n C dX12_dayGoes_146 rfl 2 rfl rfl ?_
                    refine x_iadd C (v := (nI (240 + i))) dX12_dayGoes_147 (nI_add 240 i) rfl ?_
                    refine x_iconst C (v := 2) dX12_dayGoes_148 (by decide) rfl ?_
                    have pf80 : NB jn (upd f7 (240 + i) (2 : Int32)) := NB_free pf9 (by unfold bd; omega)
                    obtain ⟨w81, hw82⟩ : ∃ w : va_W, w = List.set w60 1 (iA E (a 1) 382 (upd f7 (240 + i) (2 : Int32))) := ⟨_, rfl⟩
                    refine x_iask C (240 + i) (nI_clamp (by omega)) (nI_pos (by omega)) (by omega) 1 k66 hw82.symm dX12_dayGoes_149 rfl ?_
                    have hW83 : WX (okM E a cd kf jn js jq) w81 := by rw [hw82]; exact hW61.set (k := 1) rfl ⟨_, pf80, rfl⟩
                    have k84 : w81[1]? = some (iA E (a 1) 382 (upd f7 (240 + i) (2 : Int32))) := by rw [hw82]; exact set_eq k66
                    have k85 : w81[0]? = some (ob (a 0) 11 [.ref (a 1), .ref (a 2), .ref (a 3), .ref (a 4), .int (nI n12), .int (nI n14), .int (nI n16), .int v18, .int v19, .int v20, .int (nI n21), .int (nI n23), .int (nI n25), .int (nI (cd.2.2.2.2.2)), .ref (a 5), .ref (a 6), .ref (a 7), .ref (a 8), .ref (a 9), .ref (a 10), .ref (a 11), .ref (a 12), .ref (a 13), .ref (a 14), .ref (a 15), .ref (a 16), .ref (a 17), .int (nI n27), .ref (a 18), .ref (a 19), .ref (a 20), .ref (a 21), .int v29, .int v30, .int v31, .int v32, .int (nI n33), .int (nI n35), .ref (a 22), .ref (a 23), .ref (a 24), .ref (a 25), .ref (a 26), .ref (a 27), .ref (a 28), .ref (a 29), .ref (a 30), .int kf]) := by rw [hw82]; exact set_ne k67 (by decide)
                    have kp86 := keeps_set kp68 hw82 (by first | exact rfl | decide | omega | (dsimp only; omega))
                    refine x_aload_n C dX12_dayGoes_150 rfl 1 rfl rfl ?_
                    refine x_aload_n C dX12_dayGoes_151 rfl 1 rfl rfl ?_
                    refine x_get C (ci := 11) (k := 34) 0 k85 rfl in_X12 (by decide) w_1152 rfl dX12_dayGoes_152 rfl ?_
                    refine x_iconst C (v := 1) dX12_dayGoes_155 (by decide) rfl ?_
                    refine x_iadd C (v := (v31 + (1 : Int32))) dX12_dayGoes_156 rfl rfl ?_
                    refine x_any (fun v87 => ?_)
                    obtain ⟨w88, hw89⟩ : ∃ w : va_W, w = List.set w81 0 (ob (a 0) 11 [.ref (a 1), .ref (a 2), .ref (a 3), .ref (a 4), .int (nI n12), .int (nI n14), .int (nI n16), .int v18, .int v19, .int v20, .int (nI n21), .int (nI n23), .int (nI n25), .int (nI (cd.2.2.2.2.2)), .ref (a 5), .ref (a 6), .ref (a 7), .ref (a 8), .ref (a 9), .ref (a 10), .ref (a 11), .ref (a 12), .ref (a 13), .ref (a 14), .ref (a 15), .ref (a 16), .ref (a 17), .int (nI n27), .ref (a 18), .ref (a 19), .ref (a 20), .ref (a 21), .int v29, .int v30, .int v87, .int v32, .int (nI n33), .int (nI n35), .ref (a 22), .ref (a 23), .ref (a 24), .ref (a 25), .ref (a 26), .ref (a 27), .ref (a 28), .ref (a 29), .ref (a 30), .int kf]) := ⟨_, rfl⟩
                    refine x_put C (ci := 11) (k := 34) (ty := .int) 0 k85 rfl in_X12 tyX12 tyX12_ok nmX12 (by decide) w_1152 rfl rfl rfl rfl (Nat.le_of_ble_eq_true rfl) hw89.symm dX12_dayGoes_157 rfl ?_
                    have hW90 : WX (okM E a cd kf jn js jq) w88 := by rw [hw89]; exact hW83.set (k := 0) rfl ⟨n12, n14, n16, v18, v19, v20, n21, n23, n25, n27, v29, v30, v87, v32, n33, n35, by omega, by omega, by omega, by omega, by omega, by omega, by omega, by omega, by omega, rfl⟩
                    have k91 : w88[1]? = some (iA E (a 1) 382 (upd f7 (240 + i) (2 : Int32))) := by rw [hw89]; exact set_ne k84 (by decide)
                    have k92 : w88[0]? = some (ob (a 0) 11 [.ref (a 1), .ref (a 2), .ref (a 3), .ref (a 4), .int (nI n12), .int (nI n14), .int (nI n16), .int v18, .int v19, .int v20, .int (nI n21), .int (nI n23), .int (nI n25), .int (nI (cd.2.2.2.2.2)), .ref (a 5), .ref (a 6), .ref (a 7), .ref (a 8), .ref (a 9), .ref (a 10), .ref (a 11), .ref (a 12), .ref (a 13), .ref (a 14), .ref (a 15), .ref (a 16), .ref (a 17), .int (nI n27), .ref (a 18), .ref (a 19), .ref (a 20), .ref (a 21), .int v29, .int v30, .int v87, .int v32, .int (nI n33), .int (nI n35), .ref (a 22), .ref (a 23), .ref (a 24), .ref (a 25), .ref (a 26), .ref (a 27), .ref (a 28), .ref (a 29), .ref (a 30), .int kf]) := by rw [hw89]; exact set_eq k85
                    have kp93 := keeps_set kp86 hw89 (by first | exact rfl | decide | omega | (dsimp only; omega))
                    refine x_iinc C (v := (nI (i + 1))) (lv' := [(1, .int (nI (i + 1))), (2, .int (nI m64)), (0, .ref (a 0))]) dX12_dayGoes_160 2 rfl (nI_add i 1) (by decide) rfl rfl ?_
                    refine x_goto C (tgt := 81) dX12_dayGoes_163 (by decide) ?_
                    refine x_lv (lv1 := [(0, .ref (a 0)), (1, .int (nI (i + 1)))]) [2, 0] rfl ?_
                    exact ih81 (i + 1) w88 hW90 (by omega) (by omega) ⟨_, k91, pf80, by (repeat rw [pk_un (by omega)]); exact ed10⟩ kp93
                  · skip
                    refine x_goto C (tgt := 160) dX12_dayGoes_136 (by decide) ?_
                    refine x_iinc C (v := (nI (i + 1))) (lv' := [(1, .int (nI (i + 1))), (2, .int (nI m64)), (0, .ref (a 0))]) dX12_dayGoes_160 2 rfl (nI_add i 1) (by decide) rfl rfl ?_
                    refine x_goto C (tgt := 81) dX12_dayGoes_163 (by decide) ?_
                    refine x_lv (lv1 := [(0, .ref (a 0)), (1, .int (nI (i + 1)))]) [2, 0] rfl ?_
                    exact ih81 (i + 1) w60 hW61 (by omega) (by omega) ⟨_, k66, pf9, by (repeat rw [pk_un (by omega)]); exact ed10⟩ kp68
              · skip
                refine x_goto C (tgt := 160) dX12_dayGoes_101 (by decide) ?_
                refine x_iinc C (v := (nI (i + 1))) (lv' := [(1, .int (nI (i + 1))), (0, .ref (a 0))]) dX12_dayGoes_160 1 rfl (nI_add i 1) (by decide) rfl rfl ?_
                refine x_goto C (tgt := 81) dX12_dayGoes_163 (by decide) ?_
                refine x_lv (lv1 := [(0, .ref (a 0)), (1, .int (nI (i + 1)))]) [1, 0] rfl ?_
                exact ih81 (i + 1) wl81 hWl81 (by omega) (by omega) ⟨_, k8, pf9, by (repeat rw [pk_un (by omega)]); exact ed10⟩ kq81
        refine x_lv (lv1 := [(0, .ref (a 0)), (1, .int 0)]) [1, 0] rfl ?_
        exact loop81 _ 0 wl2 hWl2 (Nat.lt_succ_self _) (by omega) ⟨_, k2, pf3, by (repeat rw [pk_un (by omega)]); exact ed4⟩ kq2
      · skip
        have nf94 := nI_nle' (a := 8) (b := y) c5 (by omega) (by omega)
        refine x_aload_n C dX12_dayGoes_8 rfl 0 rfl rfl ?_
        refine x_iload_n C dX12_dayGoes_9 rfl 1 rfl rfl ?_
        obtain ⟨_, k95, n96, n98, n100, v102, v103, v104, n105, n107, n109, n111, v113, v114, v115, v116, n117, n119, bn97, bn99, bn101, bn106, bn108, bn110, bn112, bn118, bn120, rfl⟩ := hWl2 0 _ rfl
        refine x_vi C (As := [.int (nI y)]) (rest := []) (m_isHen E l a cd hG kf jn js jq wl2 hWl2 ((nI y))) mf_X12_isHen w_1285 0 k95 rfl rfl rfl (Nat.le_of_ble_eq_true rfl) ⟨(Nat.le_of_ble_eq_true rfl), (Nat.le_of_ble_eq_true rfl)⟩ ⟨(Nat.le_of_ble_eq_true rfl), (Nat.le_of_ble_eq_true rfl)⟩ dX12_dayGoes_10 rfl (fun r122 w123 h121 => ?_)
        obtain ⟨hW124, zb125, x126⟩ := h121
        refine x_ws hW124 ?_
        refine x_if_ne C (tgt := 19) dX12_dayGoes_13 (by decide) rfl (fun c127 => ?_) (fun c127 => ?_)
        · skip
          have wi128 := wth_le (a := 0) (b := 7) (j := y) (x126 c127) (by omega) (by decide) (by decide)
          refine x_aload_n C dX12_dayGoes_19 rfl 0 rfl rfl ?_
          refine x_vi C (As := []) (rest := []) (m_draws E l a cd hG kf jn js jq wl2 hWl2) mf_X12_draws w_1505 0 k95 rfl rfl rfl (Nat.le_of_ble_eq_true rfl) ⟨(Nat.le_of_ble_eq_true rfl), (Nat.le_of_ble_eq_true rfl)⟩ ⟨(Nat.le_of_ble_eq_true rfl), (Nat.le_of_ble_eq_true rfl)⟩ dX12_dayGoes_20 rfl (fun r130 w131 h129 => ?_)
          obtain ⟨hW132, kq133, x134⟩ := h129
          have k135 : w131[0]? = some (ob (a 0) 11 [.ref (a 1), .ref (a 2), .ref (a 3), .ref (a 4), .int (nI n96), .int (nI n98), .int (nI n100), .int v102, .int v103, .int v104, .int (nI n105), .int (nI n107), .int (nI n109), .int (nI (cd.2.2.2.2.2)), .ref (a 5), .ref (a 6), .ref (a 7), .ref (a 8), .ref (a 9), .ref (a 10), .ref (a 11), .ref (a 12), .ref (a 13), .ref (a 14), .ref (a 15), .ref (a 16), .ref (a 17), .int (nI n111), .ref (a 18), .ref (a 19), .ref (a 20), .ref (a 21), .int v113, .int v114, .int v115, .int v116, .int (nI n117), .int (nI n119), .ref (a 22), .ref (a 23), .ref (a 24), .ref (a 25), .ref (a 26), .ref (a 27), .ref (a 28), .ref (a 29), .ref (a 30), .int kf]) := keeps_at kq133 k95 (by first | decide | omega | (dsimp only; omega))
          have kp136 := keeps_tr kq2 kq133 (fun q hq => by first | omega | (dsimp only at *; omega))
          obtain ⟨v137, k138⟩ := x134 _ k2
          have pf139 : NB jn (upd f1 380 v137) := NB_free pf3 (by unfold bd; omega)
          refine x_istore_n C (lv' := [(2, .int r130), (0, .ref (a 0)), (1, .int (nI y))]) dX12_dayGoes_23 rfl (by decide) rfl rfl ?_
          refine x_aload_n C dX12_dayGoes_24 rfl 1 rfl rfl ?_
          refine x_iload_n C dX12_dayGoes_25 rfl 2 rfl rfl ?_
          refine x_iconst C (v := 0) dX12_dayGoes_26 (by decide) rfl ?_
          refine x_vv C (As := [.int (nI y), .int 0]) (rest := []) (m_feelsHen E l a cd hG kf jn js jq w131 hW132 y (0 : Int32) (by omega) ((upd f1 380 v137)) k138) mf_X12_feelsHen w_1510 0 k135 rfl rfl rfl (Nat.le_of_ble_eq_true rfl) ⟨(Nat.le_of_ble_eq_true rfl), (Nat.le_of_ble_eq_true rfl)⟩ ⟨(Nat.le_of_ble_eq_true rfl), (Nat.le_of_ble_eq_true rfl)⟩ dX12_dayGoes_27 rfl (fun w142 h140 => ?_)
          obtain ⟨hW143, kq144, x145⟩ := h140
          have k146 : w142[0]? = some (ob (a 0) 11 [.ref (a 1), .ref (a 2), .ref (a 3), .ref (a 4), .int (nI n96), .int (nI n98), .int (nI n100), .int v102, .int v103, .int v104, .int (nI n105), .int (nI n107), .int (nI n109), .int (nI (cd.2.2.2.2.2)), .ref (a 5), .ref (a 6), .ref (a 7), .ref (a 8), .ref (a 9), .ref (a 10), .ref (a 11), .ref (a 12), .ref (a 13), .ref (a 14), .ref (a 15), .ref (a 16), .ref (a 17), .int (nI n111), .ref (a 18), .ref (a 19), .ref (a 20), .ref (a 21), .int v113, .int v114, .int v115, .int v116, .int (nI n117), .int (nI n119), .ref (a 22), .ref (a 23), .ref (a 24), .ref (a 25), .ref (a 26), .ref (a 27), .ref (a 28), .ref (a 29), .ref (a 30), .int kf]) := keeps_at kq144 k135 (by first | decide | omega | (dsimp only; omega))
          have k147 : w142[1]? = some (iA E (a 1) 382 (upd f1 380 v137)) := keeps_at kq144 k138 (by first | decide | omega | (dsimp only; omega))
          have kp148 := keeps_tr kp136 kq144 (fun q hq => by first | omega | (dsimp only at *; omega))
          obtain ⟨g149, k150, ecl151⟩ := x145
          refine x_iload_n C dX12_dayGoes_30 rfl 0 rfl rfl ?_
          refine x_aload_n C dX12_dayGoes_31 rfl 1 rfl rfl ?_
          refine x_bipush C (v := 102) dX12_dayGoes_32 (by decide) rfl ?_
          refine x_bipush C (v := 10) dX12_dayGoes_34 (by decide) rfl ?_
          refine x_vi C (As := [.int 102, .int 10]) (rest := [.int r130]) (m_byLaw E l a cd hG kf jn js jq w142 hW143 (102 : Int32) 10 (by omega) g149 k150) mf_X12_byLaw w_1463 0 k146 rfl rfl rfl (Nat.le_of_ble_eq_true rfl) ⟨(Nat.le_of_ble_eq_true rfl), (Nat.le_of_ble_eq_true rfl)⟩ ⟨(Nat.le_of_ble_eq_true rfl), (Nat.le_of_ble_eq_true rfl)⟩ dX12_dayGoes_36 rfl (fun r153 w154 h152 => ?_)
          obtain ⟨hW155, kq156, ⟨m158, bm159, e157⟩, x160⟩ := h152
          refine x_top e157 ?_
          have k161 : w154[0]? = some (ob (a 0) 11 [.ref (a 1), .ref (a 2), .ref (a 3), .ref (a 4), .int (nI n96), .int (nI n98), .int (nI n100), .int v102, .int v103, .int v104, .int (nI n105), .int (nI n107), .int (nI n109), .int (nI (cd.2.2.2.2.2)), .ref (a 5), .ref (a 6), .ref (a 7), .ref (a 8), .ref (a 9), .ref (a 10), .ref (a 11), .ref (a 12), .ref (a 13), .ref (a 14), .ref (a 15), .ref (a 16), .ref (a 17), .int (nI n111), .ref (a 18), .ref (a 19), .ref (a 20), .ref (a 21), .int v113, .int v114, .int v115, .int v116, .int (nI n117), .int (nI n119), .ref (a 22), .ref (a 23), .ref (a 24), .ref (a 25), .ref (a 26), .ref (a 27), .ref (a 28), .ref (a 29), .ref (a 30), .int kf]) := keeps_at kq156 k146 (by first | decide | omega | (dsimp only; omega))
          have k162 : w154[1]? = some (iA E (a 1) 382 (upd f1 380 v137)) := keeps_at kq156 k147 (by first | decide | omega | (dsimp only; omega))
          have k163 : w154[17]? = some (iA E (a 17) 11 g149) := keeps_at kq156 k150 (by first | decide | omega | (dsimp only; omega))
          have kp164 := keeps_tr kp148 kq156 (fun q hq => by first | omega | (dsimp only at *; omega))
          refine x_icmp_ge C (tgt := 55) dX12_dayGoes_39 (by decide) rfl (fun c165 => ?_) (fun c165 => ?_)
          · skip
            refine x_aload_n C dX12_dayGoes_55 rfl 1 rfl rfl ?_
            refine x_get C (ci := 11) (k := 0) 0 k161 rfl in_X12 (by decide) w_1118 rfl dX12_dayGoes_56 rfl ?_
            refine x_sipush C (v := 381) dX12_dayGoes_59 (by decide) rfl ?_
            obtain ⟨n166, hn167, en168⟩ := NB_many pf139
            refine x_ialk C (v := nI n166) 381 (by decide) (by decide) (by decide) 1 k162 en168 dX12_dayGoes_62 rfl ?_
            refine x_bipush C (v := 48) dX12_dayGoes_63 (by decide) rfl ?_
            refine x_icmp_ge C (tgt := 73) dX12_dayGoes_65 (by decide) rfl (fun c169 => ?_) (fun c169 => ?_)
            · skip
              have nf170 := nI_le' (a := 48) (b := n166) c169 (by omega) (by omega)
              refine x_iinc C (v := (nI (y + 1))) (lv' := [(1, .int (nI (y + 1))), (2, .int r130), (0, .ref (a 0))]) dX12_dayGoes_73 2 rfl (nI_add y 1) (by decide) rfl rfl ?_
              refine x_goto C (tgt := 2) dX12_dayGoes_76 (by decide) ?_
              refine x_lv (lv1 := [(0, .ref (a 0)), (1, .int (nI (y + 1)))]) [2, 0] rfl ?_
              exact ih2 (y + 1) w154 hW155 (by omega) (by omega) ⟨_, k162, pf139, by (repeat rw [pk_un (by omega)]); exact ed4⟩ kp164
            · skip
              have nf171 := nI_nle' (a := 48) (b := n166) c169 (by omega) (by omega)
              refine x_aload_n C dX12_dayGoes_68 rfl 1 rfl rfl ?_
              refine x_iload_n C dX12_dayGoes_69 rfl 2 rfl rfl ?_
              refine x_vv C (As := [.int (nI y)]) (rest := []) (m_lays E l a cd hG kf jn js jq w154 hW155 y (by omega) ((upd f1 380 v137)) k162 n166 (by omega) en168) mf_X12_lays w_1514 0 k161 rfl rfl rfl (Nat.le_of_ble_eq_true rfl) ⟨(Nat.le_of_ble_eq_true rfl), (Nat.le_of_ble_eq_true rfl)⟩ ⟨(Nat.le_of_ble_eq_true rfl), (Nat.le_of_ble_eq_true rfl)⟩ dX12_dayGoes_70 rfl (fun w174 h172 => ?_)
              obtain ⟨hW175, kq176, x177⟩ := h172
              have kp178 := keeps_tr kp164 kq176 (fun q hq => by first | omega | (dsimp only at *; omega))
              obtain ⟨f179, k180, pf181, ed182⟩ := x177 _ k162
              refine x_iinc C (v := (nI (y + 1))) (lv' := [(1, .int (nI (y + 1))), (2, .int r130), (0, .ref (a 0))]) dX12_dayGoes_73 2 rfl (nI_add y 1) (by decide) rfl rfl ?_
              refine x_goto C (tgt := 2) dX12_dayGoes_76 (by decide) ?_
              refine x_lv (lv1 := [(0, .ref (a 0)), (1, .int (nI (y + 1)))]) [2, 0] rfl ?_
              exact ih2 (y + 1) w174 hW175 (by omega) (by omega) ⟨_, k180, pf181, by (repeat rw [pk_un (by omega)]); rw [ed182]; (repeat rw [pk_un (by omega)]); exact ed4⟩ kp178
          · skip
            refine x_aload_n C dX12_dayGoes_42 rfl 1 rfl rfl ?_
            refine x_aload_n C dX12_dayGoes_43 rfl 1 rfl rfl ?_
            refine x_get C (ci := 11) (k := 35) 0 k161 rfl in_X12 (by decide) w_1153 rfl dX12_dayGoes_44 rfl ?_
            refine x_iconst C (v := 1) dX12_dayGoes_47 (by decide) rfl ?_
            refine x_iadd C (v := (v116 + (1 : Int32))) dX12_dayGoes_48 rfl rfl ?_
            refine x_any (fun v183 => ?_)
            obtain ⟨w184, hw185⟩ : ∃ w : va_W, w = List.set w154 0 (ob (a 0) 11 [.ref (a 1), .ref (a 2), .ref (a 3), .ref (a 4), .int (nI n96), .int (nI n98), .int (nI n100), .int v102, .int v103, .int v104, .int (nI n105), .int (nI n107), .int (nI n109), .int (nI (cd.2.2.2.2.2)), .ref (a 5), .ref (a 6), .ref (a 7), .ref (a 8), .ref (a 9), .ref (a 10), .ref (a 11), .ref (a 12), .ref (a 13), .ref (a 14), .ref (a 15), .ref (a 16), .ref (a 17), .int (nI n111), .ref (a 18), .ref (a 19), .ref (a 20), .ref (a 21), .int v113, .int v114, .int v115, .int v183, .int (nI n117), .int (nI n119), .ref (a 22), .ref (a 23), .ref (a 24), .ref (a 25), .ref (a 26), .ref (a 27), .ref (a 28), .ref (a 29), .ref (a 30), .int kf]) := ⟨_, rfl⟩
            refine x_put C (ci := 11) (k := 35) (ty := .int) 0 k161 rfl in_X12 tyX12 tyX12_ok nmX12 (by decide) w_1153 rfl rfl rfl rfl (Nat.le_of_ble_eq_true rfl) hw185.symm dX12_dayGoes_49 rfl ?_
            have hW186 : WX (okM E a cd kf jn js jq) w184 := by rw [hw185]; exact hW155.set (k := 0) rfl ⟨n96, n98, n100, v102, v103, v104, n105, n107, n109, n111, v113, v114, v115, v183, n117, n119, by omega, by omega, by omega, by omega, by omega, by omega, by omega, by omega, by omega, rfl⟩
            have k187 : w184[0]? = some (ob (a 0) 11 [.ref (a 1), .ref (a 2), .ref (a 3), .ref (a 4), .int (nI n96), .int (nI n98), .int (nI n100), .int v102, .int v103, .int v104, .int (nI n105), .int (nI n107), .int (nI n109), .int (nI (cd.2.2.2.2.2)), .ref (a 5), .ref (a 6), .ref (a 7), .ref (a 8), .ref (a 9), .ref (a 10), .ref (a 11), .ref (a 12), .ref (a 13), .ref (a 14), .ref (a 15), .ref (a 16), .ref (a 17), .int (nI n111), .ref (a 18), .ref (a 19), .ref (a 20), .ref (a 21), .int v113, .int v114, .int v115, .int v183, .int (nI n117), .int (nI n119), .ref (a 22), .ref (a 23), .ref (a 24), .ref (a 25), .ref (a 26), .ref (a 27), .ref (a 28), .ref (a 29), .ref (a 30), .int kf]) := by rw [hw185]; exact set_eq k161
            have k188 : w184[1]? = some (iA E (a 1) 382 (upd f1 380 v137)) := by rw [hw185]; exact set_ne k162 (by decide)
            have k189 : w184[17]? = some (iA E (a 17) 11 g149) := by rw [hw185]; exact set_ne k163 (by decide)
            have kp190 := keeps_set kp164 hw185 (by first | exact rfl | decide | omega | (dsimp only; omega))
            refine x_goto C (tgt := 73) dX12_dayGoes_52 (by decide) ?_
            refine x_iinc C (v := (nI (y + 1))) (lv' := [(1, .int (nI (y + 1))), (2, .int r130), (0, .ref (a 0))]) dX12_dayGoes_73 2 rfl (nI_add y 1) (by decide) rfl rfl ?_
            refine x_goto C (tgt := 2) dX12_dayGoes_76 (by decide) ?_
            refine x_lv (lv1 := [(0, .ref (a 0)), (1, .int (nI (y + 1)))]) [2, 0] rfl ?_
            exact ih2 (y + 1) w184 hW186 (by omega) (by omega) ⟨_, k188, pf139, by (repeat rw [pk_un (by omega)]); exact ed4⟩ kp190
        · skip
          refine x_goto C (tgt := 73) dX12_dayGoes_16 (by decide) ?_
          refine x_iinc C (v := (nI (y + 1))) (lv' := [(1, .int (nI (y + 1))), (0, .ref (a 0))]) dX12_dayGoes_73 1 rfl (nI_add y 1) (by decide) rfl rfl ?_
          refine x_goto C (tgt := 2) dX12_dayGoes_76 (by decide) ?_
          refine x_lv (lv1 := [(0, .ref (a 0)), (1, .int (nI (y + 1)))]) [1, 0] rfl ?_
          exact ih2 (y + 1) wl2 hWl2 (by omega) (by omega) ⟨_, k2, pf3, by (repeat rw [pk_un (by omega)]); exact ed4⟩ kq2
  refine x_lv (lv1 := [(0, .ref (a 0)), (1, .int 0)]) [1, 0] rfl ?_
  exact loop2 _ 0 ws hW (Nat.lt_succ_self _) (by omega) ⟨_, hfn, pfq, by (repeat rw [pk_un (by omega)]); exact hd0⟩ kp0
theorem dX12_daysGo_0 : decode cX12_daysGo 0 = .ok (.aload_n 0, 1) := by decide +kernel
theorem dX12_daysGo_1 : decode cX12_daysGo 1 = .ok (.iconst 0, 1) := by decide +kernel
theorem dX12_daysGo_2 : decode cX12_daysGo 2 = .ok (.putfield 310, 3) := by decide +kernel
theorem dX12_daysGo_5 : decode cX12_daysGo 5 = .ok (.aload_n 0, 1) := by decide +kernel
theorem dX12_daysGo_6 : decode cX12_daysGo 6 = .ok (.iconst 0, 1) := by decide +kernel
theorem dX12_daysGo_7 : decode cX12_daysGo 7 = .ok (.putfield 313, 3) := by decide +kernel
theorem dX12_daysGo_10 : decode cX12_daysGo 10 = .ok (.aload_n 0, 1) := by decide +kernel
theorem dX12_daysGo_11 : decode cX12_daysGo 11 = .ok (.iconst 0, 1) := by decide +kernel
theorem dX12_daysGo_12 : decode cX12_daysGo 12 = .ok (.putfield 322, 3) := by decide +kernel
theorem dX12_daysGo_15 : decode cX12_daysGo 15 = .ok (.aload_n 0, 1) := by decide +kernel
theorem dX12_daysGo_16 : decode cX12_daysGo 16 = .ok (.iconst 0, 1) := by decide +kernel
theorem dX12_daysGo_17 : decode cX12_daysGo 17 = .ok (.putfield 316, 3) := by decide +kernel
theorem dX12_daysGo_20 : decode cX12_daysGo 20 = .ok (.iconst 0, 1) := by decide +kernel
theorem dX12_daysGo_21 : decode cX12_daysGo 21 = .ok (.istore_n 2, 1) := by decide +kernel
theorem dX12_daysGo_22 : decode cX12_daysGo 22 = .ok (.iload_n 2, 1) := by decide +kernel
theorem dX12_daysGo_23 : decode cX12_daysGo 23 = .ok (.iload_n 1, 1) := by decide +kernel
theorem dX12_daysGo_24 : decode cX12_daysGo 24 = .ok (.if_icmp .ge 27, 3) := by decide +kernel
theorem dX12_daysGo_27 : decode cX12_daysGo 27 = .ok (.aload_n 0, 1) := by decide +kernel
theorem dX12_daysGo_28 : decode cX12_daysGo 28 = .ok (.getfield 7, 3) := by decide +kernel
theorem dX12_daysGo_31 : decode cX12_daysGo 31 = .ok (.sipush 379, 3) := by decide +kernel
theorem dX12_daysGo_34 : decode cX12_daysGo 34 = .ok (.iaload, 1) := by decide +kernel
theorem dX12_daysGo_35 : decode cX12_daysGo 35 = .ok (.sipush 9999, 3) := by decide +kernel
theorem dX12_daysGo_38 : decode cX12_daysGo 38 = .ok (.if_icmp .ge 13, 3) := by decide +kernel
theorem dX12_daysGo_41 : decode cX12_daysGo 41 = .ok (.aload_n 0, 1) := by decide +kernel
theorem dX12_daysGo_42 : decode cX12_daysGo 42 = .ok (.invokevirtual 325, 3) := by decide +kernel
theorem dX12_daysGo_45 : decode cX12_daysGo 45 = .ok (.iinc 2 1, 3) := by decide +kernel
theorem dX12_daysGo_48 : decode cX12_daysGo 48 = .ok (.goto (-26), 3) := by decide +kernel
theorem dX12_daysGo_51 : decode cX12_daysGo 51 = .ok (.return_, 1) := by decide +kernel
set_option maxRecDepth 20000 in
set_option maxHeartbeats 4000000 in
theorem m_daysGo (E : xE) (l : Launch) (a : Nat → Nat) (cd : Cd) (hG : Good cd) (kf : Int32) (jn js jq : Lb) (ws : va_W) (hW : WX (okM E a cd kf jn js jq) ws) (n0 : Nat) (hn0 : n0 ≤ 60) : xV E l yX12_daysGo cX12_daysGo 3 5 0 0 [.ref (a 0), .int (nI n0)] ws (fun w => WX (okM E a cd kf jn js jq) w ∧ keeps ws w (fun q => q = 0 ∨ q = 1 ∨ q = 16 ∨ q = 17)) := by
  refine xV_start (lv := [(0, .ref (a 0)), (1, .int (nI n0))]) RX12 (by decide) rfl (Nat.le_of_ble_eq_true rfl) rfl (fun p e s m below meth c A C hr hlk hin => ?_)
  have kp0 : keeps ws ws (fun q => q = 0 ∨ q = 1 ∨ q = 16 ∨ q = 17) := keeps_rf
  refine x_aload_n C dX12_daysGo_0 rfl 0 rfl rfl ?_
  refine x_iconst C (v := 0) dX12_daysGo_1 (by decide) rfl ?_
  obtain ⟨_, k1, n2, n4, n6, v8, v9, v10, n11, n13, n15, n17, v19, v20, v21, v22, n23, n25, bn3, bn5, bn7, bn12, bn14, bn16, bn18, bn24, bn26, rfl⟩ := hW 0 _ rfl
  obtain ⟨w27, hw28⟩ : ∃ w : va_W, w = List.set ws 0 (ob (a 0) 11 [.ref (a 1), .ref (a 2), .ref (a 3), .ref (a 4), .int (nI n2), .int (nI n4), .int (nI n6), .int v8, .int v9, .int v10, .int (nI n11), .int (nI n13), .int (nI n15), .int (nI (cd.2.2.2.2.2)), .ref (a 5), .ref (a 6), .ref (a 7), .ref (a 8), .ref (a 9), .ref (a 10), .ref (a 11), .ref (a 12), .ref (a 13), .ref (a 14), .ref (a 15), .ref (a 16), .ref (a 17), .int (nI n17), .ref (a 18), .ref (a 19), .ref (a 20), .ref (a 21), .int 0, .int v20, .int v21, .int v22, .int (nI n23), .int (nI n25), .ref (a 22), .ref (a 23), .ref (a 24), .ref (a 25), .ref (a 26), .ref (a 27), .ref (a 28), .ref (a 29), .ref (a 30), .int kf]) := ⟨_, rfl⟩
  refine x_put C (ci := 11) (k := 32) (ty := .int) 0 k1 rfl in_X12 tyX12 tyX12_ok nmX12 (by decide) w_1150 rfl rfl rfl rfl (Nat.le_of_ble_eq_true rfl) hw28.symm dX12_daysGo_2 rfl ?_
  have hW29 : WX (okM E a cd kf jn js jq) w27 := by rw [hw28]; exact hW.set (k := 0) rfl ⟨n2, n4, n6, v8, v9, v10, n11, n13, n15, n17, (0 : Int32), v20, v21, v22, n23, n25, by omega, by omega, by omega, by omega, by omega, by omega, by omega, by omega, by omega, rfl⟩
  have k30 : w27[0]? = some (ob (a 0) 11 [.ref (a 1), .ref (a 2), .ref (a 3), .ref (a 4), .int (nI n2), .int (nI n4), .int (nI n6), .int v8, .int v9, .int v10, .int (nI n11), .int (nI n13), .int (nI n15), .int (nI (cd.2.2.2.2.2)), .ref (a 5), .ref (a 6), .ref (a 7), .ref (a 8), .ref (a 9), .ref (a 10), .ref (a 11), .ref (a 12), .ref (a 13), .ref (a 14), .ref (a 15), .ref (a 16), .ref (a 17), .int (nI n17), .ref (a 18), .ref (a 19), .ref (a 20), .ref (a 21), .int 0, .int v20, .int v21, .int v22, .int (nI n23), .int (nI n25), .ref (a 22), .ref (a 23), .ref (a 24), .ref (a 25), .ref (a 26), .ref (a 27), .ref (a 28), .ref (a 29), .ref (a 30), .int kf]) := by rw [hw28]; exact set_eq k1
  have kp31 := keeps_set kp0 hw28 (by first | exact rfl | decide | omega | (dsimp only; omega))
  refine x_aload_n C dX12_daysGo_5 rfl 0 rfl rfl ?_
  refine x_iconst C (v := 0) dX12_daysGo_6 (by decide) rfl ?_
  obtain ⟨w32, hw33⟩ : ∃ w : va_W, w = List.set w27 0 (ob (a 0) 11 [.ref (a 1), .ref (a 2), .ref (a 3), .ref (a 4), .int (nI n2), .int (nI n4), .int (nI n6), .int v8, .int v9, .int v10, .int (nI n11), .int (nI n13), .int (nI n15), .int (nI (cd.2.2.2.2.2)), .ref (a 5), .ref (a 6), .ref (a 7), .ref (a 8), .ref (a 9), .ref (a 10), .ref (a 11), .ref (a 12), .ref (a 13), .ref (a 14), .ref (a 15), .ref (a 16), .ref (a 17), .int (nI n17), .ref (a 18), .ref (a 19), .ref (a 20), .ref (a 21), .int 0, .int 0, .int v21, .int v22, .int (nI n23), .int (nI n25), .ref (a 22), .ref (a 23), .ref (a 24), .ref (a 25), .ref (a 26), .ref (a 27), .ref (a 28), .ref (a 29), .ref (a 30), .int kf]) := ⟨_, rfl⟩
  refine x_put C (ci := 11) (k := 33) (ty := .int) 0 k30 rfl in_X12 tyX12 tyX12_ok nmX12 (by decide) w_1151 rfl rfl rfl rfl (Nat.le_of_ble_eq_true rfl) hw33.symm dX12_daysGo_7 rfl ?_
  have hW34 : WX (okM E a cd kf jn js jq) w32 := by rw [hw33]; exact hW29.set (k := 0) rfl ⟨n2, n4, n6, v8, v9, v10, n11, n13, n15, n17, (0 : Int32), (0 : Int32), v21, v22, n23, n25, by omega, by omega, by omega, by omega, by omega, by omega, by omega, by omega, by omega, rfl⟩
  have k35 : w32[0]? = some (ob (a 0) 11 [.ref (a 1), .ref (a 2), .ref (a 3), .ref (a 4), .int (nI n2), .int (nI n4), .int (nI n6), .int v8, .int v9, .int v10, .int (nI n11), .int (nI n13), .int (nI n15), .int (nI (cd.2.2.2.2.2)), .ref (a 5), .ref (a 6), .ref (a 7), .ref (a 8), .ref (a 9), .ref (a 10), .ref (a 11), .ref (a 12), .ref (a 13), .ref (a 14), .ref (a 15), .ref (a 16), .ref (a 17), .int (nI n17), .ref (a 18), .ref (a 19), .ref (a 20), .ref (a 21), .int 0, .int 0, .int v21, .int v22, .int (nI n23), .int (nI n25), .ref (a 22), .ref (a 23), .ref (a 24), .ref (a 25), .ref (a 26), .ref (a 27), .ref (a 28), .ref (a 29), .ref (a 30), .int kf]) := by rw [hw33]; exact set_eq k30
  have kp36 := keeps_set kp31 hw33 (by first | exact rfl | decide | omega | (dsimp only; omega))
  refine x_aload_n C dX12_daysGo_10 rfl 0 rfl rfl ?_
  refine x_iconst C (v := 0) dX12_daysGo_11 (by decide) rfl ?_
  obtain ⟨w37, hw38⟩ : ∃ w : va_W, w = List.set w32 0 (ob (a 0) 11 [.ref (a 1), .ref (a 2), .ref (a 3), .ref (a 4), .int (nI n2), .int (nI n4), .int (nI n6), .int v8, .int v9, .int v10, .int (nI n11), .int (nI n13), .int (nI n15), .int (nI (cd.2.2.2.2.2)), .ref (a 5), .ref (a 6), .ref (a 7), .ref (a 8), .ref (a 9), .ref (a 10), .ref (a 11), .ref (a 12), .ref (a 13), .ref (a 14), .ref (a 15), .ref (a 16), .ref (a 17), .int (nI n17), .ref (a 18), .ref (a 19), .ref (a 20), .ref (a 21), .int 0, .int 0, .int 0, .int v22, .int (nI n23), .int (nI n25), .ref (a 22), .ref (a 23), .ref (a 24), .ref (a 25), .ref (a 26), .ref (a 27), .ref (a 28), .ref (a 29), .ref (a 30), .int kf]) := ⟨_, rfl⟩
  refine x_put C (ci := 11) (k := 34) (ty := .int) 0 k35 rfl in_X12 tyX12 tyX12_ok nmX12 (by decide) w_1152 rfl rfl rfl rfl (Nat.le_of_ble_eq_true rfl) hw38.symm dX12_daysGo_12 rfl ?_
  have hW39 : WX (okM E a cd kf jn js jq) w37 := by rw [hw38]; exact hW34.set (k := 0) rfl ⟨n2, n4, n6, v8, v9, v10, n11, n13, n15, n17, (0 : Int32), (0 : Int32), (0 : Int32), v22, n23, n25, by omega, by omega, by omega, by omega, by omega, by omega, by omega, by omega, by omega, rfl⟩
  have k40 : w37[0]? = some (ob (a 0) 11 [.ref (a 1), .ref (a 2), .ref (a 3), .ref (a 4), .int (nI n2), .int (nI n4), .int (nI n6), .int v8, .int v9, .int v10, .int (nI n11), .int (nI n13), .int (nI n15), .int (nI (cd.2.2.2.2.2)), .ref (a 5), .ref (a 6), .ref (a 7), .ref (a 8), .ref (a 9), .ref (a 10), .ref (a 11), .ref (a 12), .ref (a 13), .ref (a 14), .ref (a 15), .ref (a 16), .ref (a 17), .int (nI n17), .ref (a 18), .ref (a 19), .ref (a 20), .ref (a 21), .int 0, .int 0, .int 0, .int v22, .int (nI n23), .int (nI n25), .ref (a 22), .ref (a 23), .ref (a 24), .ref (a 25), .ref (a 26), .ref (a 27), .ref (a 28), .ref (a 29), .ref (a 30), .int kf]) := by rw [hw38]; exact set_eq k35
  have kp41 := keeps_set kp36 hw38 (by first | exact rfl | decide | omega | (dsimp only; omega))
  refine x_aload_n C dX12_daysGo_15 rfl 0 rfl rfl ?_
  refine x_iconst C (v := 0) dX12_daysGo_16 (by decide) rfl ?_
  obtain ⟨w42, hw43⟩ : ∃ w : va_W, w = List.set w37 0 (ob (a 0) 11 [.ref (a 1), .ref (a 2), .ref (a 3), .ref (a 4), .int (nI n2), .int (nI n4), .int (nI n6), .int v8, .int v9, .int v10, .int (nI n11), .int (nI n13), .int (nI n15), .int (nI (cd.2.2.2.2.2)), .ref (a 5), .ref (a 6), .ref (a 7), .ref (a 8), .ref (a 9), .ref (a 10), .ref (a 11), .ref (a 12), .ref (a 13), .ref (a 14), .ref (a 15), .ref (a 16), .ref (a 17), .int (nI n17), .ref (a 18), .ref (a 19), .ref (a 20), .ref (a 21), .int 0, .int 0, .int 0, .int 0, .int (nI n23), .int (nI n25), .ref (a 22), .ref (a 23), .ref (a 24), .ref (a 25), .ref (a 26), .ref (a 27), .ref (a 28), .ref (a 29), .ref (a 30), .int kf]) := ⟨_, rfl⟩
  refine x_put C (ci := 11) (k := 35) (ty := .int) 0 k40 rfl in_X12 tyX12 tyX12_ok nmX12 (by decide) w_1153 rfl rfl rfl rfl (Nat.le_of_ble_eq_true rfl) hw43.symm dX12_daysGo_17 rfl ?_
  have hW44 : WX (okM E a cd kf jn js jq) w42 := by rw [hw43]; exact hW39.set (k := 0) rfl ⟨n2, n4, n6, v8, v9, v10, n11, n13, n15, n17, (0 : Int32), (0 : Int32), (0 : Int32), (0 : Int32), n23, n25, by omega, by omega, by omega, by omega, by omega, by omega, by omega, by omega, by omega, rfl⟩
  have k45 : w42[0]? = some (ob (a 0) 11 [.ref (a 1), .ref (a 2), .ref (a 3), .ref (a 4), .int (nI n2), .int (nI n4), .int (nI n6), .int v8, .int v9, .int v10, .int (nI n11), .int (nI n13), .int (nI n15), .int (nI (cd.2.2.2.2.2)), .ref (a 5), .ref (a 6), .ref (a 7), .ref (a 8), .ref (a 9), .ref (a 10), .ref (a 11), .ref (a 12), .ref (a 13), .ref (a 14), .ref (a 15), .ref (a 16), .ref (a 17), .int (nI n17), .ref (a 18), .ref (a 19), .ref (a 20), .ref (a 21), .int 0, .int 0, .int 0, .int 0, .int (nI n23), .int (nI n25), .ref (a 22), .ref (a 23), .ref (a 24), .ref (a 25), .ref (a 26), .ref (a 27), .ref (a 28), .ref (a 29), .ref (a 30), .int kf]) := by rw [hw43]; exact set_eq k40
  have kp46 := keeps_set kp41 hw43 (by first | exact rfl | decide | omega | (dsimp only; omega))
  refine x_iconst C (v := 0) dX12_daysGo_20 (by decide) rfl ?_
  refine x_istore_n C (lv' := [(2, .int 0), (0, .ref (a 0)), (1, .int (nI n0))]) dX12_daysGo_21 rfl (by decide) rfl rfl ?_
  have loop22 : ∀ (fu22 : Nat) (k : Nat) (wl22 : va_W), WX (okM E a cd kf jn js jq) wl22 → 60 - k < fu22 → k ≤ 60 → keeps ws wl22 (fun q => q = 0 ∨ q = 1 ∨ q = 16 ∨ q = 17) → X E p l e (xRm 5 0 0) s m ([.ref (a 0), .int (nI n0)] : List Value).toArray below meth c A 3 0 0 (MQ below (va_Qv (fun w => WX (okM E a cd kf jn js jq) w ∧ keeps ws w (fun q => q = 0 ∨ q = 1 ∨ q = 16 ∨ q = 17)) (xB E A) A) ([.ref (a 0), .int (nI n0)] : List Value).toArray s 0 0 A) wl22 22 [(0, .ref (a 0)), (1, .int (nI n0)), (2, .int (nI k))] [] := by
    intro fu22
    induction fu22 with
    | zero => intro k wl22 _ q; omega
    | succ fu22 ih22 =>
      intro k wl22 hWl22 me22 iv22_0 kq22
      refine x_iload_n C dX12_daysGo_22 rfl 2 rfl rfl ?_
      refine x_iload_n C dX12_daysGo_23 rfl 1 rfl rfl ?_
      refine x_icmp_ge C (tgt := 51) dX12_daysGo_24 (by decide) rfl (fun c47 => ?_) (fun c47 => ?_)
      · skip
        have nf48 := nI_le' (a := n0) (b := k) c47 (by omega) (by omega)
        exact x_vret C hr hlk dX12_daysGo_51 ⟨hWl22, kq22⟩
      · skip
        have nf49 := nI_nle' (a := n0) (b := k) c47 (by omega) (by omega)
        refine x_aload_n C dX12_daysGo_27 rfl 0 rfl rfl ?_
        obtain ⟨_, k50, n51, n53, n55, v57, v58, v59, n60, n62, n64, n66, v68, v69, v70, v71, n72, n74, bn52, bn54, bn56, bn61, bn63, bn65, bn67, bn73, bn75, rfl⟩ := hWl22 0 _ rfl
        refine x_get C (ci := 11) (k := 0) 0 k50 rfl in_X12 (by decide) w_1118 rfl dX12_daysGo_28 rfl ?_
        refine x_sipush C (v := 379) dX12_daysGo_31 (by decide) rfl ?_
        obtain ⟨_, k76, f77, pf78, rfl⟩ := hWl22 1 _ rfl
        obtain ⟨n79, hn80, en81⟩ := NB_day pf78
        refine x_ialk C (v := nI n79) 379 (by decide) (by decide) (by decide) 1 k76 en81 dX12_daysGo_34 rfl ?_
        refine x_sipush C (v := 9999) dX12_daysGo_35 (by decide) rfl ?_
        refine x_icmp_ge C (tgt := 51) dX12_daysGo_38 (by decide) rfl (fun c82 => ?_) (fun c82 => ?_)
        · skip
          have nf83 := nI_le' (a := 9999) (b := n79) c82 (by omega) (by omega)
          exact x_vret C hr hlk dX12_daysGo_51 ⟨hWl22, kq22⟩
        · skip
          have nf84 := nI_nle' (a := 9999) (b := n79) c82 (by omega) (by omega)
          refine x_aload_n C dX12_daysGo_41 rfl 0 rfl rfl ?_
          refine x_vv C (As := []) (rest := []) (m_dayGoes E l a cd hG kf jn js jq wl22 hWl22 f77 k76 n79 (by omega) en81) mf_X12_dayGoes w_1501 0 k50 rfl rfl rfl (Nat.le_of_ble_eq_true rfl) ⟨(Nat.le_of_ble_eq_true rfl), (Nat.le_of_ble_eq_true rfl)⟩ ⟨(Nat.le_of_ble_eq_true rfl), (Nat.le_of_ble_eq_true rfl)⟩ dX12_daysGo_42 rfl (fun w87 h85 => ?_)
          obtain ⟨hW88, kq89⟩ := h85
          have kp90 := keeps_tr kq22 kq89 (fun q hq => by first | omega | (dsimp only at *; omega))
          refine x_iinc C (v := (nI (k + 1))) (lv' := [(2, .int (nI (k + 1))), (0, .ref (a 0)), (1, .int (nI n0))]) dX12_daysGo_45 2 rfl (nI_add k 1) (by decide) rfl rfl ?_
          refine x_goto C (tgt := 22) dX12_daysGo_48 (by decide) ?_
          refine x_lv (lv1 := [(0, .ref (a 0)), (1, .int (nI n0)), (2, .int (nI (k + 1)))]) [1, 2, 0] rfl ?_
          exact ih22 (k + 1) w87 hW88 (by omega) (by omega) kp90
  refine x_lv (lv1 := [(0, .ref (a 0)), (1, .int (nI n0)), (2, .int 0)]) [1, 2, 0] rfl ?_
  exact loop22 _ 0 w42 hW44 (Nat.lt_succ_self _) (by omega) kp46
theorem dX12_days_0 : decode cX12_days 0 = .ok (.iload_n 1, 1) := by decide +kernel
theorem dX12_days_1 : decode cX12_days 1 = .ok (.iconst 1, 1) := by decide +kernel
theorem dX12_days_2 : decode cX12_days 2 = .ok (.bipush 60, 2) := by decide +kernel
theorem dX12_days_4 : decode cX12_days 4 = .ok (.invokestatic 109, 3) := by decide +kernel
theorem dX12_days_7 : decode cX12_days 7 = .ok (.ifCond .ne 5, 3) := by decide +kernel
theorem dX12_days_10 : decode cX12_days 10 = .ok (.iconst (-1), 1) := by decide +kernel
theorem dX12_days_11 : decode cX12_days 11 = .ok (.ireturn, 1) := by decide +kernel
theorem dX12_days_12 : decode cX12_days 12 = .ok (.aload_n 0, 1) := by decide +kernel
theorem dX12_days_13 : decode cX12_days 13 = .ok (.iload_n 1, 1) := by decide +kernel
theorem dX12_days_14 : decode cX12_days 14 = .ok (.invokevirtual 328, 3) := by decide +kernel
theorem dX12_days_17 : decode cX12_days 17 = .ok (.aload_n 0, 1) := by decide +kernel
theorem dX12_days_18 : decode cX12_days 18 = .ok (.getfield 310, 3) := by decide +kernel
theorem dX12_days_21 : decode cX12_days 21 = .ok (.ireturn, 1) := by decide +kernel
set_option maxRecDepth 20000 in
set_option maxHeartbeats 4000000 in
theorem m_days (E : xE) (l : Launch) (a : Nat → Nat) (cd : Cd) (hG : Good cd) (kf : Int32) (jn js jq : Lb) (ws : va_W) (hW : WX (okM E a cd kf jn js jq) ws) (p0 : Int32) : xI E l yX12_days cX12_days 2 (some .int) 8 [.ref (a 0), .int p0] ws (fun r w => WX (okM E a cd kf jn js jq) w) := by
  refine xI_start (lv := [(0, .ref (a 0)), (1, .int p0)]) RX12 (by decide) rfl (Nat.le_of_ble_eq_true rfl) rfl (fun p e s m below meth c A C hr hlk => ?_)
  refine x_iload_n C dX12_days_0 rfl 1 rfl rfl ?_
  refine x_iconst C (v := 1) dX12_days_1 (by decide) rfl ?_
  refine x_bipush C (v := 60) dX12_days_2 (by decide) rfl ?_
  refine x_si C (As := [.int p0, .int 1, .int 60]) (rest := []) (m_in E l a cd hG kf jn js jq ws hW p0 (1 : Int32) (60 : Int32)) mf_X12_in w_1267 rfl rfl (Nat.le_of_ble_eq_true rfl) ⟨(Nat.le_of_ble_eq_true rfl), (Nat.le_of_ble_eq_true rfl)⟩ ⟨(Nat.le_of_ble_eq_true rfl), (Nat.le_of_ble_eq_true rfl)⟩ dX12_days_4 rfl (fun r2 w3 h1 => ?_)
  obtain ⟨hW4, zb5, x6⟩ := h1
  refine x_ws hW4 ?_
  refine x_if_ne C (tgt := 12) dX12_days_7 (by decide) rfl (fun c7 => ?_) (fun c7 => ?_)
  · skip
    obtain ⟨j8, hl9, hh10, ej11⟩ := w_nat (a := 1) (b := 60) (by decide) (by decide) (x6 c7)
    subst ej11
    refine x_aload_n C dX12_days_12 rfl 0 rfl rfl ?_
    refine x_iload_n C dX12_days_13 rfl 1 rfl rfl ?_
    obtain ⟨_, k12, n13, n15, n17, v19, v20, v21, n22, n24, n26, n28, v30, v31, v32, v33, n34, n36, bn14, bn16, bn18, bn23, bn25, bn27, bn29, bn35, bn37, rfl⟩ := hW 0 _ rfl
    refine x_vv C (As := [.int (nI j8)]) (rest := []) (m_daysGo E l a cd hG kf jn js jq ws hW j8 (by omega)) mf_X12_daysGo w_1497 0 k12 rfl rfl rfl (Nat.le_of_ble_eq_true rfl) ⟨(Nat.le_of_ble_eq_true rfl), (Nat.le_of_ble_eq_true rfl)⟩ ⟨(Nat.le_of_ble_eq_true rfl), (Nat.le_of_ble_eq_true rfl)⟩ dX12_days_14 rfl (fun w40 h38 => ?_)
    obtain ⟨hW41, kq42⟩ := h38
    refine x_aload_n C dX12_days_17 rfl 0 rfl rfl ?_
    obtain ⟨_, k43, n44, n46, n48, v50, v51, v52, n53, n55, n57, n59, v61, v62, v63, v64, n65, n67, bn45, bn47, bn49, bn54, bn56, bn58, bn60, bn66, bn68, rfl⟩ := hW41 0 _ rfl
    refine x_get C (ci := 11) (k := 32) 0 k43 rfl in_X12 (by decide) w_1150 rfl dX12_days_18 rfl ?_
    exact x_zret C hr hlk rfl dX12_days_21 hW41
  · skip
    refine x_iconst C (v := (-1)) dX12_days_10 (by decide) rfl ?_
    exact x_zret C hr hlk rfl dX12_days_11 hW
theorem dX12_tried_0 : decode cX12_tried 0 = .ok (.iload_n 1, 1) := by decide +kernel
theorem dX12_tried_1 : decode cX12_tried 1 = .ok (.iconst 1, 1) := by decide +kernel
theorem dX12_tried_2 : decode cX12_tried 2 = .ok (.bipush 60, 2) := by decide +kernel
theorem dX12_tried_4 : decode cX12_tried 4 = .ok (.invokestatic 109, 3) := by decide +kernel
theorem dX12_tried_7 : decode cX12_tried 7 = .ok (.ifCond .eq 12, 3) := by decide +kernel
theorem dX12_tried_10 : decode cX12_tried 10 = .ok (.iload_n 2, 1) := by decide +kernel
theorem dX12_tried_11 : decode cX12_tried 11 = .ok (.iconst 0, 1) := by decide +kernel
theorem dX12_tried_12 : decode cX12_tried 12 = .ok (.iconst 4, 1) := by decide +kernel
theorem dX12_tried_13 : decode cX12_tried 13 = .ok (.invokestatic 109, 3) := by decide +kernel
theorem dX12_tried_16 : decode cX12_tried 16 = .ok (.ifCond .ne 5, 3) := by decide +kernel
theorem dX12_tried_19 : decode cX12_tried 19 = .ok (.iconst (-1), 1) := by decide +kernel
theorem dX12_tried_20 : decode cX12_tried 20 = .ok (.ireturn, 1) := by decide +kernel
theorem dX12_tried_21 : decode cX12_tried 21 = .ok (.aload_n 0, 1) := by decide +kernel
theorem dX12_tried_22 : decode cX12_tried 22 = .ok (.getfield 7, 3) := by decide +kernel
theorem dX12_tried_25 : decode cX12_tried 25 = .ok (.aload_n 0, 1) := by decide +kernel
theorem dX12_tried_26 : decode cX12_tried 26 = .ok (.getfield 13, 3) := by decide +kernel
theorem dX12_tried_29 : decode cX12_tried 29 = .ok (.invokestatic 299, 3) := by decide +kernel
theorem dX12_tried_32 : decode cX12_tried 32 = .ok (.aload_n 0, 1) := by decide +kernel
theorem dX12_tried_33 : decode cX12_tried 33 = .ok (.iload_n 1, 1) := by decide +kernel
theorem dX12_tried_34 : decode cX12_tried 34 = .ok (.invokevirtual 328, 3) := by decide +kernel
theorem dX12_tried_37 : decode cX12_tried 37 = .ok (.iload_n 2, 1) := by decide +kernel
theorem dX12_tried_38 : decode cX12_tried 38 = .ok (.ifCond .ne 10, 3) := by decide +kernel
theorem dX12_tried_41 : decode cX12_tried 41 = .ok (.aload_n 0, 1) := by decide +kernel
theorem dX12_tried_42 : decode cX12_tried 42 = .ok (.getfield 310, 3) := by decide +kernel
theorem dX12_tried_45 : decode cX12_tried 45 = .ok (.goto 44, 3) := by decide +kernel
theorem dX12_tried_48 : decode cX12_tried 48 = .ok (.iload_n 2, 1) := by decide +kernel
theorem dX12_tried_49 : decode cX12_tried 49 = .ok (.iconst 1, 1) := by decide +kernel
theorem dX12_tried_50 : decode cX12_tried 50 = .ok (.if_icmp .ne 10, 3) := by decide +kernel
theorem dX12_tried_53 : decode cX12_tried 53 = .ok (.aload_n 0, 1) := by decide +kernel
theorem dX12_tried_54 : decode cX12_tried 54 = .ok (.getfield 313, 3) := by decide +kernel
theorem dX12_tried_57 : decode cX12_tried 57 = .ok (.goto 32, 3) := by decide +kernel
theorem dX12_tried_60 : decode cX12_tried 60 = .ok (.iload_n 2, 1) := by decide +kernel
theorem dX12_tried_61 : decode cX12_tried 61 = .ok (.iconst 2, 1) := by decide +kernel
theorem dX12_tried_62 : decode cX12_tried 62 = .ok (.if_icmp .ne 10, 3) := by decide +kernel
theorem dX12_tried_65 : decode cX12_tried 65 = .ok (.aload_n 0, 1) := by decide +kernel
theorem dX12_tried_66 : decode cX12_tried 66 = .ok (.getfield 322, 3) := by decide +kernel
theorem dX12_tried_69 : decode cX12_tried 69 = .ok (.goto 20, 3) := by decide +kernel
theorem dX12_tried_72 : decode cX12_tried 72 = .ok (.iload_n 2, 1) := by decide +kernel
theorem dX12_tried_73 : decode cX12_tried 73 = .ok (.iconst 3, 1) := by decide +kernel
theorem dX12_tried_74 : decode cX12_tried 74 = .ok (.if_icmp .ne 10, 3) := by decide +kernel
theorem dX12_tried_77 : decode cX12_tried 77 = .ok (.aload_n 0, 1) := by decide +kernel
theorem dX12_tried_78 : decode cX12_tried 78 = .ok (.getfield 316, 3) := by decide +kernel
theorem dX12_tried_81 : decode cX12_tried 81 = .ok (.goto 8, 3) := by decide +kernel
theorem dX12_tried_84 : decode cX12_tried 84 = .ok (.aload_n 0, 1) := by decide +kernel
theorem dX12_tried_85 : decode cX12_tried 85 = .ok (.iconst 0, 1) := by decide +kernel
theorem dX12_tried_86 : decode cX12_tried 86 = .ok (.invokevirtual 331, 3) := by decide +kernel
theorem dX12_tried_89 : decode cX12_tried 89 = .ok (.istore_n 3, 1) := by decide +kernel
theorem dX12_tried_90 : decode cX12_tried 90 = .ok (.aload_n 0, 1) := by decide +kernel
theorem dX12_tried_91 : decode cX12_tried 91 = .ok (.getfield 13, 3) := by decide +kernel
theorem dX12_tried_94 : decode cX12_tried 94 = .ok (.aload_n 0, 1) := by decide +kernel
theorem dX12_tried_95 : decode cX12_tried 95 = .ok (.getfield 7, 3) := by decide +kernel
theorem dX12_tried_98 : decode cX12_tried 98 = .ok (.invokestatic 299, 3) := by decide +kernel
theorem dX12_tried_101 : decode cX12_tried 101 = .ok (.iload_n 3, 1) := by decide +kernel
theorem dX12_tried_102 : decode cX12_tried 102 = .ok (.ireturn, 1) := by decide +kernel
set_option maxRecDepth 20000 in
set_option maxHeartbeats 4000000 in
theorem m_tried (E : xE) (l : Launch) (a : Nat → Nat) (cd : Cd) (hG : Good cd) (kf : Int32) (jn js jq : Lb) (ws : va_W) (hW : WX (okM E a cd kf jn none jq) ws) (p0 : Int32) (p1 : Int32) : xI E l yX12_tried cX12_tried 4 (some .int) 8 [.ref (a 0), .int p0, .int p1] ws (fun r w => WX (okM E a cd kf jn none jq) w) := by
  refine xI_start (lv := [(0, .ref (a 0)), (1, .int p0), (2, .int p1)]) RX12 (by decide) rfl (Nat.le_of_ble_eq_true rfl) rfl (fun p e s m below meth c A C hr hlk => ?_)
  refine x_iload_n C dX12_tried_0 rfl 1 rfl rfl ?_
  refine x_iconst C (v := 1) dX12_tried_1 (by decide) rfl ?_
  refine x_bipush C (v := 60) dX12_tried_2 (by decide) rfl ?_
  refine x_si C (As := [.int p0, .int 1, .int 60]) (rest := []) (m_in E l a cd hG kf jn none jq ws hW p0 (1 : Int32) (60 : Int32)) mf_X12_in w_1267 rfl rfl (Nat.le_of_ble_eq_true rfl) ⟨(Nat.le_of_ble_eq_true rfl), (Nat.le_of_ble_eq_true rfl)⟩ ⟨(Nat.le_of_ble_eq_true rfl), (Nat.le_of_ble_eq_true rfl)⟩ dX12_tried_4 rfl (fun r2 w3 h1 => ?_)
  obtain ⟨hW4, zb5, x6⟩ := h1
  refine x_ws hW4 ?_
  refine x_if_eq C (tgt := 19) dX12_tried_7 (by decide) rfl (fun c7 => ?_) (fun c7 => ?_)
  · skip
    refine x_iconst C (v := (-1)) dX12_tried_19 (by decide) rfl ?_
    exact x_zret C hr hlk rfl dX12_tried_20 hW
  · skip
    obtain ⟨j8, hl9, hh10, ej11⟩ := w_nat (a := 1) (b := 60) (by decide) (by decide) (x6 c7)
    subst ej11
    refine x_iload_n C dX12_tried_10 rfl 2 rfl rfl ?_
    refine x_iconst C (v := 0) dX12_tried_11 (by decide) rfl ?_
    refine x_iconst C (v := 4) dX12_tried_12 (by decide) rfl ?_
    refine x_si C (As := [.int p1, .int 0, .int 4]) (rest := []) (m_in E l a cd hG kf jn none jq ws hW p1 (0 : Int32) (4 : Int32)) mf_X12_in w_1267 rfl rfl (Nat.le_of_ble_eq_true rfl) ⟨(Nat.le_of_ble_eq_true rfl), (Nat.le_of_ble_eq_true rfl)⟩ ⟨(Nat.le_of_ble_eq_true rfl), (Nat.le_of_ble_eq_true rfl)⟩ dX12_tried_13 rfl (fun r13 w14 h12 => ?_)
    obtain ⟨hW15, zb16, x17⟩ := h12
    refine x_ws hW15 ?_
    refine x_if_ne C (tgt := 21) dX12_tried_16 (by decide) rfl (fun c18 => ?_) (fun c18 => ?_)
    · skip
      obtain ⟨j19, hl20, hh21, ej22⟩ := w_nat (a := 0) (b := 4) (by decide) (by decide) (x17 c18)
      subst ej22
      refine x_aload_n C dX12_tried_21 rfl 0 rfl rfl ?_
      obtain ⟨_, k23, n24, n26, n28, v30, v31, v32, n33, n35, n37, n39, v41, v42, v43, v44, n45, n47, bn25, bn27, bn29, bn34, bn36, bn38, bn40, bn46, bn48, rfl⟩ := hW 0 _ rfl
      refine x_get C (ci := 11) (k := 0) 0 k23 rfl in_X12 (by decide) w_1118 rfl dX12_tried_22 rfl ?_
      refine x_aload_n C dX12_tried_25 rfl 0 rfl rfl ?_
      refine x_get C (ci := 11) (k := 1) 0 k23 rfl in_X12 (by decide) w_1119 rfl dX12_tried_26 rfl ?_
      refine x_sv C (As := [.ref (a 1), .ref (a 2)]) (rest := []) (m_copies12 E l a cd hG kf jn none jq ws hW) mf_X12_copies w_1490 rfl rfl (Nat.le_of_ble_eq_true rfl) ⟨(Nat.le_of_ble_eq_true rfl), (Nat.le_of_ble_eq_true rfl)⟩ ⟨(Nat.le_of_ble_eq_true rfl), (Nat.le_of_ble_eq_true rfl)⟩ dX12_tried_29 rfl (fun w51 h49 => ?_)
      obtain ⟨hW52, kq53⟩ := h49
      have k54 : w51[0]? = some (ob (a 0) 11 [.ref (a 1), .ref (a 2), .ref (a 3), .ref (a 4), .int (nI n24), .int (nI n26), .int (nI n28), .int v30, .int v31, .int v32, .int (nI n33), .int (nI n35), .int (nI n37), .int (nI (cd.2.2.2.2.2)), .ref (a 5), .ref (a 6), .ref (a 7), .ref (a 8), .ref (a 9), .ref (a 10), .ref (a 11), .ref (a 12), .ref (a 13), .ref (a 14), .ref (a 15), .ref (a 16), .ref (a 17), .int (nI n39), .ref (a 18), .ref (a 19), .ref (a 20), .ref (a 21), .int v41, .int v42, .int v43, .int v44, .int (nI n45), .int (nI n47), .ref (a 22), .ref (a 23), .ref (a 24), .ref (a 25), .ref (a 26), .ref (a 27), .ref (a 28), .ref (a 29), .ref (a 30), .int kf]) := keeps_at kq53 k23 (by first | decide | omega | (dsimp only; omega))
      refine x_aload_n C dX12_tried_32 rfl 0 rfl rfl ?_
      refine x_iload_n C dX12_tried_33 rfl 1 rfl rfl ?_
      refine x_vv C (As := [.int (nI j8)]) (rest := []) (m_daysGo E l a cd hG kf jn jn jq w51 hW52 j8 (by omega)) mf_X12_daysGo w_1497 0 k54 rfl rfl rfl (Nat.le_of_ble_eq_true rfl) ⟨(Nat.le_of_ble_eq_true rfl), (Nat.le_of_ble_eq_true rfl)⟩ ⟨(Nat.le_of_ble_eq_true rfl), (Nat.le_of_ble_eq_true rfl)⟩ dX12_tried_34 rfl (fun w57 h55 => ?_)
      obtain ⟨hW58, kq59⟩ := h55
      refine x_iload_n C dX12_tried_37 rfl 2 rfl rfl ?_
      refine x_if_ne C (tgt := 48) dX12_tried_38 (by decide) rfl (fun c60 => ?_) (fun c60 => ?_)
      · skip
        have nf61 : ¬ j19 = 0 := fun q => c60 (congrArg nI q)
        refine x_iload_n C dX12_tried_48 rfl 2 rfl rfl ?_
        refine x_iconst C (v := 1) dX12_tried_49 (by decide) rfl ?_
        refine x_icmp_ne C (tgt := 60) dX12_tried_50 (by decide) rfl (fun c62 => ?_) (fun c62 => ?_)
        · skip
          have nf63 : ¬ j19 = 1 := fun q => c62 (congrArg nI q)
          refine x_iload_n C dX12_tried_60 rfl 2 rfl rfl ?_
          refine x_iconst C (v := 2) dX12_tried_61 (by decide) rfl ?_
          refine x_icmp_ne C (tgt := 72) dX12_tried_62 (by decide) rfl (fun c64 => ?_) (fun c64 => ?_)
          · skip
            have nf65 : ¬ j19 = 2 := fun q => c64 (congrArg nI q)
            refine x_iload_n C dX12_tried_72 rfl 2 rfl rfl ?_
            refine x_iconst C (v := 3) dX12_tried_73 (by decide) rfl ?_
            refine x_icmp_ne C (tgt := 84) dX12_tried_74 (by decide) rfl (fun c66 => ?_) (fun c66 => ?_)
            · skip
              have nf67 : ¬ j19 = 3 := fun q => c66 (congrArg nI q)
              refine x_aload_n C dX12_tried_84 rfl 0 rfl rfl ?_
              refine x_iconst C (v := 0) dX12_tried_85 (by decide) rfl ?_
              obtain ⟨_, k68, n69, n71, n73, v75, v76, v77, n78, n80, n82, n84, v86, v87, v88, v89, n90, n92, bn70, bn72, bn74, bn79, bn81, bn83, bn85, bn91, bn93, rfl⟩ := hW58 0 _ rfl
              refine x_vi C (As := [.int 0]) (rest := []) (m_howMany E l a cd hG kf jn jn jq w57 hW58 (0 : Int32)) mf_X12_howMany w_1526 0 k68 rfl rfl rfl (Nat.le_of_ble_eq_true rfl) ⟨(Nat.le_of_ble_eq_true rfl), (Nat.le_of_ble_eq_true rfl)⟩ ⟨(Nat.le_of_ble_eq_true rfl), (Nat.le_of_ble_eq_true rfl)⟩ dX12_tried_86 rfl (fun r95 w96 h94 => ?_)
              have hW97 := h94
              refine x_ws hW97 ?_
              refine x_istore_n C (lv' := [(3, .int r95), (0, .ref (a 0)), (1, .int (nI j8)), (2, .int (nI j19))]) dX12_tried_89 rfl (by decide) rfl rfl ?_
              refine x_aload_n C dX12_tried_90 rfl 1 rfl rfl ?_
              refine x_get C (ci := 11) (k := 1) 0 k68 rfl in_X12 (by decide) w_1119 rfl dX12_tried_91 rfl ?_
              refine x_aload_n C dX12_tried_94 rfl 1 rfl rfl ?_
              refine x_get C (ci := 11) (k := 0) 0 k68 rfl in_X12 (by decide) w_1118 rfl dX12_tried_95 rfl ?_
              refine x_sv C (As := [.ref (a 2), .ref (a 1)]) (rest := []) (m_copies21 E l a cd hG kf jn jn jq w57 hW58) mf_X12_copies w_1490 rfl rfl (Nat.le_of_ble_eq_true rfl) ⟨(Nat.le_of_ble_eq_true rfl), (Nat.le_of_ble_eq_true rfl)⟩ ⟨(Nat.le_of_ble_eq_true rfl), (Nat.le_of_ble_eq_true rfl)⟩ dX12_tried_98 rfl (fun w100 h98 => ?_)
              obtain ⟨hW101, kq102⟩ := h98
              have k103 : w100[0]? = some (ob (a 0) 11 [.ref (a 1), .ref (a 2), .ref (a 3), .ref (a 4), .int (nI n69), .int (nI n71), .int (nI n73), .int v75, .int v76, .int v77, .int (nI n78), .int (nI n80), .int (nI n82), .int (nI (cd.2.2.2.2.2)), .ref (a 5), .ref (a 6), .ref (a 7), .ref (a 8), .ref (a 9), .ref (a 10), .ref (a 11), .ref (a 12), .ref (a 13), .ref (a 14), .ref (a 15), .ref (a 16), .ref (a 17), .int (nI n84), .ref (a 18), .ref (a 19), .ref (a 20), .ref (a 21), .int v86, .int v87, .int v88, .int v89, .int (nI n90), .int (nI n92), .ref (a 22), .ref (a 23), .ref (a 24), .ref (a 25), .ref (a 26), .ref (a 27), .ref (a 28), .ref (a 29), .ref (a 30), .int kf]) := keeps_at kq102 k68 (by first | decide | omega | (dsimp only; omega))
              refine x_iload_n C dX12_tried_101 rfl 0 rfl rfl ?_
              exact x_zret C hr hlk rfl dX12_tried_102 (wxW_s hW101)
            · skip
              have nf104 : j19 = 3 := (nI_eq (by omega) (by omega)).mp c66
              refine x_aload_n C dX12_tried_77 rfl 0 rfl rfl ?_
              obtain ⟨_, k105, n106, n108, n110, v112, v113, v114, n115, n117, n119, n121, v123, v124, v125, v126, n127, n129, bn107, bn109, bn111, bn116, bn118, bn120, bn122, bn128, bn130, rfl⟩ := hW58 0 _ rfl
              refine x_get C (ci := 11) (k := 35) 0 k105 rfl in_X12 (by decide) w_1153 rfl dX12_tried_78 rfl ?_
              refine x_goto C (tgt := 89) dX12_tried_81 (by decide) ?_
              refine x_istore_n C (lv' := [(3, .int v126), (0, .ref (a 0)), (1, .int (nI j8)), (2, .int (nI j19))]) dX12_tried_89 rfl (by decide) rfl rfl ?_
              refine x_aload_n C dX12_tried_90 rfl 1 rfl rfl ?_
              refine x_get C (ci := 11) (k := 1) 0 k105 rfl in_X12 (by decide) w_1119 rfl dX12_tried_91 rfl ?_
              refine x_aload_n C dX12_tried_94 rfl 1 rfl rfl ?_
              refine x_get C (ci := 11) (k := 0) 0 k105 rfl in_X12 (by decide) w_1118 rfl dX12_tried_95 rfl ?_
              refine x_sv C (As := [.ref (a 2), .ref (a 1)]) (rest := []) (m_copies21 E l a cd hG kf jn jn jq w57 hW58) mf_X12_copies w_1490 rfl rfl (Nat.le_of_ble_eq_true rfl) ⟨(Nat.le_of_ble_eq_true rfl), (Nat.le_of_ble_eq_true rfl)⟩ ⟨(Nat.le_of_ble_eq_true rfl), (Nat.le_of_ble_eq_true rfl)⟩ dX12_tried_98 rfl (fun w133 h131 => ?_)
              obtain ⟨hW134, kq135⟩ := h131
              have k136 : w133[0]? = some (ob (a 0) 11 [.ref (a 1), .ref (a 2), .ref (a 3), .ref (a 4), .int (nI n106), .int (nI n108), .int (nI n110), .int v112, .int v113, .int v114, .int (nI n115), .int (nI n117), .int (nI n119), .int (nI (cd.2.2.2.2.2)), .ref (a 5), .ref (a 6), .ref (a 7), .ref (a 8), .ref (a 9), .ref (a 10), .ref (a 11), .ref (a 12), .ref (a 13), .ref (a 14), .ref (a 15), .ref (a 16), .ref (a 17), .int (nI n121), .ref (a 18), .ref (a 19), .ref (a 20), .ref (a 21), .int v123, .int v124, .int v125, .int v126, .int (nI n127), .int (nI n129), .ref (a 22), .ref (a 23), .ref (a 24), .ref (a 25), .ref (a 26), .ref (a 27), .ref (a 28), .ref (a 29), .ref (a 30), .int kf]) := keeps_at kq135 k105 (by first | decide | omega | (dsimp only; omega))
              refine x_iload_n C dX12_tried_101 rfl 0 rfl rfl ?_
              exact x_zret C hr hlk rfl dX12_tried_102 (wxW_s hW134)
          · skip
            have nf137 : j19 = 2 := (nI_eq (by omega) (by omega)).mp c64
            refine x_aload_n C dX12_tried_65 rfl 0 rfl rfl ?_
            obtain ⟨_, k138, n139, n141, n143, v145, v146, v147, n148, n150, n152, n154, v156, v157, v158, v159, n160, n162, bn140, bn142, bn144, bn149, bn151, bn153, bn155, bn161, bn163, rfl⟩ := hW58 0 _ rfl
            refine x_get C (ci := 11) (k := 34) 0 k138 rfl in_X12 (by decide) w_1152 rfl dX12_tried_66 rfl ?_
            refine x_goto C (tgt := 89) dX12_tried_69 (by decide) ?_
            refine x_istore_n C (lv' := [(3, .int v158), (0, .ref (a 0)), (1, .int (nI j8)), (2, .int (nI j19))]) dX12_tried_89 rfl (by decide) rfl rfl ?_
            refine x_aload_n C dX12_tried_90 rfl 1 rfl rfl ?_
            refine x_get C (ci := 11) (k := 1) 0 k138 rfl in_X12 (by decide) w_1119 rfl dX12_tried_91 rfl ?_
            refine x_aload_n C dX12_tried_94 rfl 1 rfl rfl ?_
            refine x_get C (ci := 11) (k := 0) 0 k138 rfl in_X12 (by decide) w_1118 rfl dX12_tried_95 rfl ?_
            refine x_sv C (As := [.ref (a 2), .ref (a 1)]) (rest := []) (m_copies21 E l a cd hG kf jn jn jq w57 hW58) mf_X12_copies w_1490 rfl rfl (Nat.le_of_ble_eq_true rfl) ⟨(Nat.le_of_ble_eq_true rfl), (Nat.le_of_ble_eq_true rfl)⟩ ⟨(Nat.le_of_ble_eq_true rfl), (Nat.le_of_ble_eq_true rfl)⟩ dX12_tried_98 rfl (fun w166 h164 => ?_)
            obtain ⟨hW167, kq168⟩ := h164
            have k169 : w166[0]? = some (ob (a 0) 11 [.ref (a 1), .ref (a 2), .ref (a 3), .ref (a 4), .int (nI n139), .int (nI n141), .int (nI n143), .int v145, .int v146, .int v147, .int (nI n148), .int (nI n150), .int (nI n152), .int (nI (cd.2.2.2.2.2)), .ref (a 5), .ref (a 6), .ref (a 7), .ref (a 8), .ref (a 9), .ref (a 10), .ref (a 11), .ref (a 12), .ref (a 13), .ref (a 14), .ref (a 15), .ref (a 16), .ref (a 17), .int (nI n154), .ref (a 18), .ref (a 19), .ref (a 20), .ref (a 21), .int v156, .int v157, .int v158, .int v159, .int (nI n160), .int (nI n162), .ref (a 22), .ref (a 23), .ref (a 24), .ref (a 25), .ref (a 26), .ref (a 27), .ref (a 28), .ref (a 29), .ref (a 30), .int kf]) := keeps_at kq168 k138 (by first | decide | omega | (dsimp only; omega))
            refine x_iload_n C dX12_tried_101 rfl 0 rfl rfl ?_
            exact x_zret C hr hlk rfl dX12_tried_102 (wxW_s hW167)
        · skip
          have nf170 : j19 = 1 := (nI_eq (by omega) (by omega)).mp c62
          refine x_aload_n C dX12_tried_53 rfl 0 rfl rfl ?_
          obtain ⟨_, k171, n172, n174, n176, v178, v179, v180, n181, n183, n185, n187, v189, v190, v191, v192, n193, n195, bn173, bn175, bn177, bn182, bn184, bn186, bn188, bn194, bn196, rfl⟩ := hW58 0 _ rfl
          refine x_get C (ci := 11) (k := 33) 0 k171 rfl in_X12 (by decide) w_1151 rfl dX12_tried_54 rfl ?_
          refine x_goto C (tgt := 89) dX12_tried_57 (by decide) ?_
          refine x_istore_n C (lv' := [(3, .int v190), (0, .ref (a 0)), (1, .int (nI j8)), (2, .int (nI j19))]) dX12_tried_89 rfl (by decide) rfl rfl ?_
          refine x_aload_n C dX12_tried_90 rfl 1 rfl rfl ?_
          refine x_get C (ci := 11) (k := 1) 0 k171 rfl in_X12 (by decide) w_1119 rfl dX12_tried_91 rfl ?_
          refine x_aload_n C dX12_tried_94 rfl 1 rfl rfl ?_
          refine x_get C (ci := 11) (k := 0) 0 k171 rfl in_X12 (by decide) w_1118 rfl dX12_tried_95 rfl ?_
          refine x_sv C (As := [.ref (a 2), .ref (a 1)]) (rest := []) (m_copies21 E l a cd hG kf jn jn jq w57 hW58) mf_X12_copies w_1490 rfl rfl (Nat.le_of_ble_eq_true rfl) ⟨(Nat.le_of_ble_eq_true rfl), (Nat.le_of_ble_eq_true rfl)⟩ ⟨(Nat.le_of_ble_eq_true rfl), (Nat.le_of_ble_eq_true rfl)⟩ dX12_tried_98 rfl (fun w199 h197 => ?_)
          obtain ⟨hW200, kq201⟩ := h197
          have k202 : w199[0]? = some (ob (a 0) 11 [.ref (a 1), .ref (a 2), .ref (a 3), .ref (a 4), .int (nI n172), .int (nI n174), .int (nI n176), .int v178, .int v179, .int v180, .int (nI n181), .int (nI n183), .int (nI n185), .int (nI (cd.2.2.2.2.2)), .ref (a 5), .ref (a 6), .ref (a 7), .ref (a 8), .ref (a 9), .ref (a 10), .ref (a 11), .ref (a 12), .ref (a 13), .ref (a 14), .ref (a 15), .ref (a 16), .ref (a 17), .int (nI n187), .ref (a 18), .ref (a 19), .ref (a 20), .ref (a 21), .int v189, .int v190, .int v191, .int v192, .int (nI n193), .int (nI n195), .ref (a 22), .ref (a 23), .ref (a 24), .ref (a 25), .ref (a 26), .ref (a 27), .ref (a 28), .ref (a 29), .ref (a 30), .int kf]) := keeps_at kq201 k171 (by first | decide | omega | (dsimp only; omega))
          refine x_iload_n C dX12_tried_101 rfl 0 rfl rfl ?_
          exact x_zret C hr hlk rfl dX12_tried_102 (wxW_s hW200)
      · skip
        have nf203 : j19 = 0 := (nI_eq (by omega) (by omega)).mp c60
        refine x_aload_n C dX12_tried_41 rfl 0 rfl rfl ?_
        obtain ⟨_, k204, n205, n207, n209, v211, v212, v213, n214, n216, n218, n220, v222, v223, v224, v225, n226, n228, bn206, bn208, bn210, bn215, bn217, bn219, bn221, bn227, bn229, rfl⟩ := hW58 0 _ rfl
        refine x_get C (ci := 11) (k := 32) 0 k204 rfl in_X12 (by decide) w_1150 rfl dX12_tried_42 rfl ?_
        refine x_goto C (tgt := 89) dX12_tried_45 (by decide) ?_
        refine x_istore_n C (lv' := [(3, .int v222), (0, .ref (a 0)), (1, .int (nI j8)), (2, .int (nI j19))]) dX12_tried_89 rfl (by decide) rfl rfl ?_
        refine x_aload_n C dX12_tried_90 rfl 1 rfl rfl ?_
        refine x_get C (ci := 11) (k := 1) 0 k204 rfl in_X12 (by decide) w_1119 rfl dX12_tried_91 rfl ?_
        refine x_aload_n C dX12_tried_94 rfl 1 rfl rfl ?_
        refine x_get C (ci := 11) (k := 0) 0 k204 rfl in_X12 (by decide) w_1118 rfl dX12_tried_95 rfl ?_
        refine x_sv C (As := [.ref (a 2), .ref (a 1)]) (rest := []) (m_copies21 E l a cd hG kf jn jn jq w57 hW58) mf_X12_copies w_1490 rfl rfl (Nat.le_of_ble_eq_true rfl) ⟨(Nat.le_of_ble_eq_true rfl), (Nat.le_of_ble_eq_true rfl)⟩ ⟨(Nat.le_of_ble_eq_true rfl), (Nat.le_of_ble_eq_true rfl)⟩ dX12_tried_98 rfl (fun w232 h230 => ?_)
        obtain ⟨hW233, kq234⟩ := h230
        have k235 : w232[0]? = some (ob (a 0) 11 [.ref (a 1), .ref (a 2), .ref (a 3), .ref (a 4), .int (nI n205), .int (nI n207), .int (nI n209), .int v211, .int v212, .int v213, .int (nI n214), .int (nI n216), .int (nI n218), .int (nI (cd.2.2.2.2.2)), .ref (a 5), .ref (a 6), .ref (a 7), .ref (a 8), .ref (a 9), .ref (a 10), .ref (a 11), .ref (a 12), .ref (a 13), .ref (a 14), .ref (a 15), .ref (a 16), .ref (a 17), .int (nI n220), .ref (a 18), .ref (a 19), .ref (a 20), .ref (a 21), .int v222, .int v223, .int v224, .int v225, .int (nI n226), .int (nI n228), .ref (a 22), .ref (a 23), .ref (a 24), .ref (a 25), .ref (a 26), .ref (a 27), .ref (a 28), .ref (a 29), .ref (a 30), .int kf]) := keeps_at kq234 k204 (by first | decide | omega | (dsimp only; omega))
        refine x_iload_n C dX12_tried_101 rfl 0 rfl rfl ?_
        exact x_zret C hr hlk rfl dX12_tried_102 (wxW_s hW233)
    · skip
      refine x_iconst C (v := (-1)) dX12_tried_19 (by decide) rfl ?_
      exact x_zret C hr hlk rfl dX12_tried_20 hW
theorem dX12_egg_0 : decode cX12_egg 0 = .ok (.aload_n 0, 1) := by decide +kernel
theorem dX12_egg_1 : decode cX12_egg 1 = .ok (.iload_n 1, 1) := by decide +kernel
theorem dX12_egg_2 : decode cX12_egg 2 = .ok (.invokevirtual 105, 3) := by decide +kernel
theorem dX12_egg_5 : decode cX12_egg 5 = .ok (.ifCond .ne 5, 3) := by decide +kernel
theorem dX12_egg_8 : decode cX12_egg 8 = .ok (.iconst (-1), 1) := by decide +kernel
theorem dX12_egg_9 : decode cX12_egg 9 = .ok (.ireturn, 1) := by decide +kernel
theorem dX12_egg_10 : decode cX12_egg 10 = .ok (.iload_n 2, 1) := by decide +kernel
theorem dX12_egg_11 : decode cX12_egg 11 = .ok (.tableswitch 124 0 6 #[41, 50, 60, 70, 81, 92, 103], 41) := by decide +kernel
theorem dX12_egg_52 : decode cX12_egg 52 = .ok (.aload_n 0, 1) := by decide +kernel
theorem dX12_egg_53 : decode cX12_egg 53 = .ok (.getfield 7, 3) := by decide +kernel
theorem dX12_egg_56 : decode cX12_egg 56 = .ok (.iconst 0, 1) := by decide +kernel
theorem dX12_egg_57 : decode cX12_egg 57 = .ok (.iload_n 1, 1) := by decide +kernel
theorem dX12_egg_58 : decode cX12_egg 58 = .ok (.iadd, 1) := by decide +kernel
theorem dX12_egg_59 : decode cX12_egg 59 = .ok (.iaload, 1) := by decide +kernel
theorem dX12_egg_60 : decode cX12_egg 60 = .ok (.ireturn, 1) := by decide +kernel
theorem dX12_egg_61 : decode cX12_egg 61 = .ok (.aload_n 0, 1) := by decide +kernel
theorem dX12_egg_62 : decode cX12_egg 62 = .ok (.getfield 7, 3) := by decide +kernel
theorem dX12_egg_65 : decode cX12_egg 65 = .ok (.bipush 48, 2) := by decide +kernel
theorem dX12_egg_67 : decode cX12_egg 67 = .ok (.iload_n 1, 1) := by decide +kernel
theorem dX12_egg_68 : decode cX12_egg 68 = .ok (.iadd, 1) := by decide +kernel
theorem dX12_egg_69 : decode cX12_egg 69 = .ok (.iaload, 1) := by decide +kernel
theorem dX12_egg_70 : decode cX12_egg 70 = .ok (.ireturn, 1) := by decide +kernel
theorem dX12_egg_71 : decode cX12_egg 71 = .ok (.aload_n 0, 1) := by decide +kernel
theorem dX12_egg_72 : decode cX12_egg 72 = .ok (.getfield 7, 3) := by decide +kernel
theorem dX12_egg_75 : decode cX12_egg 75 = .ok (.bipush 96, 2) := by decide +kernel
theorem dX12_egg_77 : decode cX12_egg 77 = .ok (.iload_n 1, 1) := by decide +kernel
theorem dX12_egg_78 : decode cX12_egg 78 = .ok (.iadd, 1) := by decide +kernel
theorem dX12_egg_79 : decode cX12_egg 79 = .ok (.iaload, 1) := by decide +kernel
theorem dX12_egg_80 : decode cX12_egg 80 = .ok (.ireturn, 1) := by decide +kernel
theorem dX12_egg_81 : decode cX12_egg 81 = .ok (.aload_n 0, 1) := by decide +kernel
theorem dX12_egg_82 : decode cX12_egg 82 = .ok (.getfield 7, 3) := by decide +kernel
theorem dX12_egg_85 : decode cX12_egg 85 = .ok (.sipush 144, 3) := by decide +kernel
theorem dX12_egg_88 : decode cX12_egg 88 = .ok (.iload_n 1, 1) := by decide +kernel
theorem dX12_egg_89 : decode cX12_egg 89 = .ok (.iadd, 1) := by decide +kernel
theorem dX12_egg_90 : decode cX12_egg 90 = .ok (.iaload, 1) := by decide +kernel
theorem dX12_egg_91 : decode cX12_egg 91 = .ok (.ireturn, 1) := by decide +kernel
theorem dX12_egg_92 : decode cX12_egg 92 = .ok (.aload_n 0, 1) := by decide +kernel
theorem dX12_egg_93 : decode cX12_egg 93 = .ok (.getfield 7, 3) := by decide +kernel
theorem dX12_egg_96 : decode cX12_egg 96 = .ok (.sipush 192, 3) := by decide +kernel
theorem dX12_egg_99 : decode cX12_egg 99 = .ok (.iload_n 1, 1) := by decide +kernel
theorem dX12_egg_100 : decode cX12_egg 100 = .ok (.iadd, 1) := by decide +kernel
theorem dX12_egg_101 : decode cX12_egg 101 = .ok (.iaload, 1) := by decide +kernel
theorem dX12_egg_102 : decode cX12_egg 102 = .ok (.ireturn, 1) := by decide +kernel
theorem dX12_egg_103 : decode cX12_egg 103 = .ok (.aload_n 0, 1) := by decide +kernel
theorem dX12_egg_104 : decode cX12_egg 104 = .ok (.getfield 7, 3) := by decide +kernel
theorem dX12_egg_107 : decode cX12_egg 107 = .ok (.sipush 240, 3) := by decide +kernel
theorem dX12_egg_110 : decode cX12_egg 110 = .ok (.iload_n 1, 1) := by decide +kernel
theorem dX12_egg_111 : decode cX12_egg 111 = .ok (.iadd, 1) := by decide +kernel
theorem dX12_egg_112 : decode cX12_egg 112 = .ok (.iaload, 1) := by decide +kernel
theorem dX12_egg_113 : decode cX12_egg 113 = .ok (.ireturn, 1) := by decide +kernel
theorem dX12_egg_114 : decode cX12_egg 114 = .ok (.aload_n 0, 1) := by decide +kernel
theorem dX12_egg_115 : decode cX12_egg 115 = .ok (.iload_n 1, 1) := by decide +kernel
theorem dX12_egg_116 : decode cX12_egg 116 = .ok (.invokevirtual 334, 3) := by decide +kernel
theorem dX12_egg_119 : decode cX12_egg 119 = .ok (.ldc 246, 2) := by decide +kernel
theorem dX12_egg_121 : decode cX12_egg 121 = .ok (.if_icmp .ne 8, 3) := by decide +kernel
theorem dX12_egg_124 : decode cX12_egg 124 = .ok (.bipush (-2), 2) := by decide +kernel
theorem dX12_egg_126 : decode cX12_egg 126 = .ok (.goto 8, 3) := by decide +kernel
theorem dX12_egg_129 : decode cX12_egg 129 = .ok (.aload_n 0, 1) := by decide +kernel
theorem dX12_egg_130 : decode cX12_egg 130 = .ok (.iload_n 1, 1) := by decide +kernel
theorem dX12_egg_131 : decode cX12_egg 131 = .ok (.invokevirtual 334, 3) := by decide +kernel
theorem dX12_egg_134 : decode cX12_egg 134 = .ok (.ireturn, 1) := by decide +kernel
theorem dX12_egg_135 : decode cX12_egg 135 = .ok (.iconst (-1), 1) := by decide +kernel
theorem dX12_egg_136 : decode cX12_egg 136 = .ok (.ireturn, 1) := by decide +kernel
set_option maxRecDepth 20000 in
set_option maxHeartbeats 4000000 in
theorem m_egg (E : xE) (l : Launch) (a : Nat → Nat) (cd : Cd) (hG : Good cd) (kf : Int32) (jn js jq : Lb) (ws : va_W) (hW : WX (okM E a cd kf jn js jq) ws) (p0 : Int32) (p1 : Int32) : xI E l yX12_egg cX12_egg 3 (some .int) 8 [.ref (a 0), .int p0, .int p1] ws (fun r w => WX (okM E a cd kf jn js jq) w) := by
  refine xI_start (lv := [(0, .ref (a 0)), (1, .int p0), (2, .int p1)]) RX12 (by decide) rfl (Nat.le_of_ble_eq_true rfl) rfl (fun p e s m below meth c A C hr hlk => ?_)
  refine x_aload_n C dX12_egg_0 rfl 0 rfl rfl ?_
  refine x_iload_n C dX12_egg_1 rfl 1 rfl rfl ?_
  obtain ⟨_, k1, n2, n4, n6, v8, v9, v10, n11, n13, n15, n17, v19, v20, v21, v22, n23, n25, bn3, bn5, bn7, bn12, bn14, bn16, bn18, bn24, bn26, rfl⟩ := hW 0 _ rfl
  refine x_vi C (As := [.int p0]) (rest := []) (m_isEgg E l a cd hG kf jn js jq ws hW p0) mf_X12_isEgg w_1439 0 k1 rfl rfl rfl (Nat.le_of_ble_eq_true rfl) ⟨(Nat.le_of_ble_eq_true rfl), (Nat.le_of_ble_eq_true rfl)⟩ ⟨(Nat.le_of_ble_eq_true rfl), (Nat.le_of_ble_eq_true rfl)⟩ dX12_egg_2 rfl (fun r28 w29 h27 => ?_)
  obtain ⟨hW30, zb31, x32⟩ := h27
  refine x_ws hW30 ?_
  refine x_if_ne C (tgt := 10) dX12_egg_5 (by decide) rfl (fun c33 => ?_) (fun c33 => ?_)
  · skip
    obtain ⟨j34, hl35, hh36, ej37⟩ := w_nat (a := 0) (b := 47) (by decide) (by decide) (x32 c33)
    subst ej37
    refine x_iload_n C dX12_egg_10 rfl 2 rfl rfl ?_
    by_cases s38 : (p1).toInt < 0
    · refine x_tabOut C (tgt := 135) dX12_egg_11 (Or.inl s38) (by decide) ?_
      refine x_iconst C (v := (-1)) dX12_egg_135 (by decide) rfl ?_
      exact x_zret C hr hlk rfl dX12_egg_136 hW
    by_cases s39 : 6 < (p1).toInt
    · refine x_tabOut C (tgt := 135) dX12_egg_11 (Or.inr s39) (by decide) ?_
      refine x_iconst C (v := (-1)) dX12_egg_135 (by decide) rfl ?_
      exact x_zret C hr hlk rfl dX12_egg_136 hW
    by_cases s40 : p1 = 0
    · refine x_tabIn C (tgt := 52) dX12_egg_11 (by rw [s40]; decide) (by rw [s40]; decide) (by rw [s40]; rfl) (by decide) ?_
      refine x_aload_n C dX12_egg_52 rfl 0 rfl rfl ?_
      refine x_get C (ci := 11) (k := 0) 0 k1 rfl in_X12 (by decide) w_1118 rfl dX12_egg_53 rfl ?_
      refine x_iconst C (v := 0) dX12_egg_56 (by decide) rfl ?_
      refine x_iload_n C dX12_egg_57 rfl 1 rfl rfl ?_
      refine x_iadd C (v := (nI (0 + j34))) dX12_egg_58 (nI_add 0 j34) rfl ?_
      obtain ⟨_, k41, f42, pf43, rfl⟩ := hW 1 _ rfl
      refine x_iald C (v := (f42 (nI (0 + j34)).toNatClampNeg)) 1 k41 (vp_in_nI (by omega) (by decide)) rfl dX12_egg_59 rfl ?_
      refine x_any (fun v44 => ?_)
      exact x_zret C hr hlk rfl dX12_egg_60 hW
    have zs40 := sw_ne (by decide : (0 : Int32).toInt = 0) s40
    by_cases s45 : p1 = 1
    · refine x_tabIn C (tgt := 61) dX12_egg_11 (by rw [s45]; decide) (by rw [s45]; decide) (by rw [s45]; rfl) (by decide) ?_
      refine x_aload_n C dX12_egg_61 rfl 0 rfl rfl ?_
      refine x_get C (ci := 11) (k := 0) 0 k1 rfl in_X12 (by decide) w_1118 rfl dX12_egg_62 rfl ?_
      refine x_bipush C (v := 48) dX12_egg_65 (by decide) rfl ?_
      refine x_iload_n C dX12_egg_67 rfl 1 rfl rfl ?_
      refine x_iadd C (v := (nI (48 + j34))) dX12_egg_68 (nI_add 48 j34) rfl ?_
      obtain ⟨_, k46, f47, pf48, rfl⟩ := hW 1 _ rfl
      obtain ⟨n49, hn50, en51⟩ := NB_lo (j := j34) pf48 (by omega)
      refine x_ialk C (v := nI n49) (48 + j34) (nI_clamp (by omega)) (nI_pos (by omega)) (by omega) 1 k46 en51 dX12_egg_69 rfl ?_
      exact x_zret C hr hlk rfl dX12_egg_70 hW
    have zs45 := sw_ne (by decide : (1 : Int32).toInt = 1) s45
    by_cases s52 : p1 = 2
    · refine x_tabIn C (tgt := 71) dX12_egg_11 (by rw [s52]; decide) (by rw [s52]; decide) (by rw [s52]; rfl) (by decide) ?_
      refine x_aload_n C dX12_egg_71 rfl 0 rfl rfl ?_
      refine x_get C (ci := 11) (k := 0) 0 k1 rfl in_X12 (by decide) w_1118 rfl dX12_egg_72 rfl ?_
      refine x_bipush C (v := 96) dX12_egg_75 (by decide) rfl ?_
      refine x_iload_n C dX12_egg_77 rfl 1 rfl rfl ?_
      refine x_iadd C (v := (nI (96 + j34))) dX12_egg_78 (nI_add 96 j34) rfl ?_
      obtain ⟨_, k53, f54, pf55, rfl⟩ := hW 1 _ rfl
      obtain ⟨n56, hn57, en58⟩ := NB_hen (j := j34) pf55 (by omega)
      refine x_ialk C (v := nI n56) (96 + j34) (nI_clamp (by omega)) (nI_pos (by omega)) (by omega) 1 k53 en58 dX12_egg_79 rfl ?_
      exact x_zret C hr hlk rfl dX12_egg_80 hW
    have zs52 := sw_ne (by decide : (2 : Int32).toInt = 2) s52
    by_cases s59 : p1 = 3
    · refine x_tabIn C (tgt := 81) dX12_egg_11 (by rw [s59]; decide) (by rw [s59]; decide) (by rw [s59]; rfl) (by decide) ?_
      refine x_aload_n C dX12_egg_81 rfl 0 rfl rfl ?_
      refine x_get C (ci := 11) (k := 0) 0 k1 rfl in_X12 (by decide) w_1118 rfl dX12_egg_82 rfl ?_
      refine x_sipush C (v := 144) dX12_egg_85 (by decide) rfl ?_
      refine x_iload_n C dX12_egg_88 rfl 1 rfl rfl ?_
      refine x_iadd C (v := (nI (144 + j34))) dX12_egg_89 (nI_add 144 j34) rfl ?_
      obtain ⟨_, k60, f61, pf62, rfl⟩ := hW 1 _ rfl
      obtain ⟨n63, hn64, en65⟩ := NB_own (j := j34) pf62 (by omega)
      refine x_ialk C (v := nI n63) (144 + j34) (nI_clamp (by omega)) (nI_pos (by omega)) (by omega) 1 k60 en65 dX12_egg_90 rfl ?_
      exact x_zret C hr hlk rfl dX12_egg_91 hW
    have zs59 := sw_ne (by decide : (3 : Int32).toInt = 3) s59
    by_cases s66 : p1 = 4
    · refine x_tabIn C (tgt := 92) dX12_egg_11 (by rw [s66]; decide) (by rw [s66]; decide) (by rw [s66]; rfl) (by decide) ?_
      refine x_aload_n C dX12_egg_92 rfl 0 rfl rfl ?_
      refine x_get C (ci := 11) (k := 0) 0 k1 rfl in_X12 (by decide) w_1118 rfl dX12_egg_93 rfl ?_
      refine x_sipush C (v := 192) dX12_egg_96 (by decide) rfl ?_
      refine x_iload_n C dX12_egg_99 rfl 1 rfl rfl ?_
      refine x_iadd C (v := (nI (192 + j34))) dX12_egg_100 (nI_add 192 j34) rfl ?_
      obtain ⟨_, k67, f68, pf69, rfl⟩ := hW 1 _ rfl
      refine x_iald C (v := (f68 (nI (192 + j34)).toNatClampNeg)) 1 k67 (vp_in_nI (by omega) (by decide)) rfl dX12_egg_101 rfl ?_
      refine x_any (fun v70 => ?_)
      exact x_zret C hr hlk rfl dX12_egg_102 hW
    have zs66 := sw_ne (by decide : (4 : Int32).toInt = 4) s66
    by_cases s71 : p1 = 5
    · refine x_tabIn C (tgt := 103) dX12_egg_11 (by rw [s71]; decide) (by rw [s71]; decide) (by rw [s71]; rfl) (by decide) ?_
      refine x_aload_n C dX12_egg_103 rfl 0 rfl rfl ?_
      refine x_get C (ci := 11) (k := 0) 0 k1 rfl in_X12 (by decide) w_1118 rfl dX12_egg_104 rfl ?_
      refine x_sipush C (v := 240) dX12_egg_107 (by decide) rfl ?_
      refine x_iload_n C dX12_egg_110 rfl 1 rfl rfl ?_
      refine x_iadd C (v := (nI (240 + j34))) dX12_egg_111 (nI_add 240 j34) rfl ?_
      obtain ⟨_, k72, f73, pf74, rfl⟩ := hW 1 _ rfl
      refine x_iald C (v := (f73 (nI (240 + j34)).toNatClampNeg)) 1 k72 (vp_in_nI (by omega) (by decide)) rfl dX12_egg_112 rfl ?_
      refine x_any (fun v75 => ?_)
      exact x_zret C hr hlk rfl dX12_egg_113 hW
    have zs71 := sw_ne (by decide : (5 : Int32).toInt = 5) s71
    have s76 : p1 = 6 := sw_last (n := 6) (by decide) s38 s39 (by omega)
    refine x_tabIn C (tgt := 114) dX12_egg_11 (by rw [s76]; decide) (by rw [s76]; decide) (by rw [s76]; rfl) (by decide) ?_
    refine x_aload_n C dX12_egg_114 rfl 0 rfl rfl ?_
    refine x_iload_n C dX12_egg_115 rfl 1 rfl rfl ?_
    refine x_vi C (As := [.int (nI j34)]) (rest := []) (m_badOn E l a cd hG kf jn js jq ws hW j34 (by omega)) mf_X12_badOn w_1534 0 k1 rfl rfl rfl (Nat.le_of_ble_eq_true rfl) ⟨(Nat.le_of_ble_eq_true rfl), (Nat.le_of_ble_eq_true rfl)⟩ ⟨(Nat.le_of_ble_eq_true rfl), (Nat.le_of_ble_eq_true rfl)⟩ dX12_egg_116 rfl (fun r78 w79 h77 => ?_)
    obtain ⟨hW80, kq81, x82⟩ := h77
    have k83 : w79[0]? = some (ob (a 0) 11 [.ref (a 1), .ref (a 2), .ref (a 3), .ref (a 4), .int (nI n2), .int (nI n4), .int (nI n6), .int v8, .int v9, .int v10, .int (nI n11), .int (nI n13), .int (nI n15), .int (nI (cd.2.2.2.2.2)), .ref (a 5), .ref (a 6), .ref (a 7), .ref (a 8), .ref (a 9), .ref (a 10), .ref (a 11), .ref (a 12), .ref (a 13), .ref (a 14), .ref (a 15), .ref (a 16), .ref (a 17), .int (nI n17), .ref (a 18), .ref (a 19), .ref (a 20), .ref (a 21), .int v19, .int v20, .int v21, .int v22, .int (nI n23), .int (nI n25), .ref (a 22), .ref (a 23), .ref (a 24), .ref (a 25), .ref (a 26), .ref (a 27), .ref (a 28), .ref (a 29), .ref (a 30), .int kf]) := keeps_at kq81 k1 (by first | decide | omega | (dsimp only; omega))
    refine x_ldc C w_1538 dX12_egg_119 rfl ?_
    refine x_icmp_ne C (tgt := 129) dX12_egg_121 (by decide) rfl (fun c84 => ?_) (fun c84 => ?_)
    · skip
      refine x_aload_n C dX12_egg_129 rfl 0 rfl rfl ?_
      refine x_iload_n C dX12_egg_130 rfl 1 rfl rfl ?_
      refine x_vi C (As := [.int (nI j34)]) (rest := []) (m_badOn E l a cd hG kf jn js jq w79 hW80 j34 (by omega)) mf_X12_badOn w_1534 0 k83 rfl rfl rfl (Nat.le_of_ble_eq_true rfl) ⟨(Nat.le_of_ble_eq_true rfl), (Nat.le_of_ble_eq_true rfl)⟩ ⟨(Nat.le_of_ble_eq_true rfl), (Nat.le_of_ble_eq_true rfl)⟩ dX12_egg_131 rfl (fun r86 w87 h85 => ?_)
      obtain ⟨hW88, kq89, x90⟩ := h85
      have k91 : w87[0]? = some (ob (a 0) 11 [.ref (a 1), .ref (a 2), .ref (a 3), .ref (a 4), .int (nI n2), .int (nI n4), .int (nI n6), .int v8, .int v9, .int v10, .int (nI n11), .int (nI n13), .int (nI n15), .int (nI (cd.2.2.2.2.2)), .ref (a 5), .ref (a 6), .ref (a 7), .ref (a 8), .ref (a 9), .ref (a 10), .ref (a 11), .ref (a 12), .ref (a 13), .ref (a 14), .ref (a 15), .ref (a 16), .ref (a 17), .int (nI n17), .ref (a 18), .ref (a 19), .ref (a 20), .ref (a 21), .int v19, .int v20, .int v21, .int v22, .int (nI n23), .int (nI n25), .ref (a 22), .ref (a 23), .ref (a 24), .ref (a 25), .ref (a 26), .ref (a 27), .ref (a 28), .ref (a 29), .ref (a 30), .int kf]) := keeps_at kq89 k83 (by first | decide | omega | (dsimp only; omega))
      exact x_zret C hr hlk rfl dX12_egg_134 hW88
    · skip
      refine x_bipush C (v := (-2)) dX12_egg_124 (by decide) rfl ?_
      refine x_goto C (tgt := 134) dX12_egg_126 (by decide) ?_
      exact x_zret C hr hlk rfl dX12_egg_134 hW80
  · skip
    refine x_iconst C (v := (-1)) dX12_egg_8 (by decide) rfl ?_
    exact x_zret C hr hlk rfl dX12_egg_9 hW
theorem dX12_worksAll_0 : decode cX12_worksAll 0 = .ok (.iconst 0, 1) := by decide +kernel
theorem dX12_worksAll_1 : decode cX12_worksAll 1 = .ok (.istore_n 3, 1) := by decide +kernel
theorem dX12_worksAll_2 : decode cX12_worksAll 2 = .ok (.iload_n 3, 1) := by decide +kernel
theorem dX12_worksAll_3 : decode cX12_worksAll 3 = .ok (.aload_n 0, 1) := by decide +kernel
theorem dX12_worksAll_4 : decode cX12_worksAll 4 = .ok (.getfield 7, 3) := by decide +kernel
theorem dX12_worksAll_7 : decode cX12_worksAll 7 = .ok (.sipush 381, 3) := by decide +kernel
theorem dX12_worksAll_10 : decode cX12_worksAll 10 = .ok (.iaload, 1) := by decide +kernel
theorem dX12_worksAll_11 : decode cX12_worksAll 11 = .ok (.if_icmp .ge 45, 3) := by decide +kernel
theorem dX12_worksAll_14 : decode cX12_worksAll 14 = .ok (.aload_n 0, 1) := by decide +kernel
theorem dX12_worksAll_15 : decode cX12_worksAll 15 = .ok (.iload_n 3, 1) := by decide +kernel
theorem dX12_worksAll_16 : decode cX12_worksAll 16 = .ok (.invokevirtual 268, 3) := by decide +kernel
theorem dX12_worksAll_19 : decode cX12_worksAll 19 = .ok (.ifCond .eq 31, 3) := by decide +kernel
theorem dX12_worksAll_22 : decode cX12_worksAll 22 = .ok (.aload_n 0, 1) := by decide +kernel
theorem dX12_worksAll_23 : decode cX12_worksAll 23 = .ok (.getfield 7, 3) := by decide +kernel
theorem dX12_worksAll_26 : decode cX12_worksAll 26 = .ok (.sipush 144, 3) := by decide +kernel
theorem dX12_worksAll_29 : decode cX12_worksAll 29 = .ok (.iload_n 3, 1) := by decide +kernel
theorem dX12_worksAll_30 : decode cX12_worksAll 30 = .ok (.iadd, 1) := by decide +kernel
theorem dX12_worksAll_31 : decode cX12_worksAll 31 = .ok (.iaload, 1) := by decide +kernel
theorem dX12_worksAll_32 : decode cX12_worksAll 32 = .ok (.iload_n 2, 1) := by decide +kernel
theorem dX12_worksAll_33 : decode cX12_worksAll 33 = .ok (.if_icmp .ne 17, 3) := by decide +kernel
theorem dX12_worksAll_36 : decode cX12_worksAll 36 = .ok (.aload_n 0, 1) := by decide +kernel
theorem dX12_worksAll_37 : decode cX12_worksAll 37 = .ok (.iload_n 1, 1) := by decide +kernel
theorem dX12_worksAll_38 : decode cX12_worksAll 38 = .ok (.invokevirtual 265, 3) := by decide +kernel
theorem dX12_worksAll_41 : decode cX12_worksAll 41 = .ok (.ifCond .ne 9, 3) := by decide +kernel
theorem dX12_worksAll_44 : decode cX12_worksAll 44 = .ok (.aload_n 0, 1) := by decide +kernel
theorem dX12_worksAll_45 : decode cX12_worksAll 45 = .ok (.iload_n 3, 1) := by decide +kernel
theorem dX12_worksAll_46 : decode cX12_worksAll 46 = .ok (.iload_n 1, 1) := by decide +kernel
theorem dX12_worksAll_47 : decode cX12_worksAll 47 = .ok (.invokevirtual 287, 3) := by decide +kernel
theorem dX12_worksAll_50 : decode cX12_worksAll 50 = .ok (.iinc 3 1, 3) := by decide +kernel
theorem dX12_worksAll_53 : decode cX12_worksAll 53 = .ok (.goto (-51), 3) := by decide +kernel
theorem dX12_worksAll_56 : decode cX12_worksAll 56 = .ok (.return_, 1) := by decide +kernel
set_option maxRecDepth 20000 in
set_option maxHeartbeats 4000000 in
theorem m_worksAll (E : xE) (l : Launch) (a : Nat → Nat) (cd : Cd) (hG : Good cd) (kf : Int32) (jn js jq : Lb) (ws : va_W) (hW : WX (okM E a cd kf jn js jq) ws) (w0 : Nat) (p1 : Int32) (hw0 : w0 ≤ 7) : xV E l yX12_worksAll cX12_worksAll 4 5 0 0 [.ref (a 0), .int (nI w0), .int p1] ws (fun w => WX (okM E a cd kf jn js jq) w ∧ keeps ws w (fun q => q = 1 ∨ q = 16 ∨ q = 17)) := by
  refine xV_start (lv := [(0, .ref (a 0)), (1, .int (nI w0)), (2, .int p1)]) RX12 (by decide) rfl (Nat.le_of_ble_eq_true rfl) rfl (fun p e s m below meth c A C hr hlk hin => ?_)
  have kp0 : keeps ws ws (fun q => q = 1 ∨ q = 16 ∨ q = 17) := keeps_rf
  refine x_iconst C (v := 0) dX12_worksAll_0 (by decide) rfl ?_
  refine x_istore_n C (lv' := [(3, .int 0), (0, .ref (a 0)), (1, .int (nI w0)), (2, .int p1)]) dX12_worksAll_1 rfl (by decide) rfl rfl ?_
  have loop2 : ∀ (fu2 : Nat) (i : Nat) (wl2 : va_W), WX (okM E a cd kf jn js jq) wl2 → 48 - i < fu2 → i ≤ 48 → keeps ws wl2 (fun q => q = 1 ∨ q = 16 ∨ q = 17) → X E p l e (xRm 5 0 0) s m ([.ref (a 0), .int (nI w0), .int p1] : List Value).toArray below meth c A 4 0 0 (MQ below (va_Qv (fun w => WX (okM E a cd kf jn js jq) w ∧ keeps ws w (fun q => q = 1 ∨ q = 16 ∨ q = 17)) (xB E A) A) ([.ref (a 0), .int (nI w0), .int p1] : List Value).toArray s 0 0 A) wl2 2 [(0, .ref (a 0)), (1, .int (nI w0)), (2, .int p1), (3, .int (nI i))] [] := by
    intro fu2
    induction fu2 with
    | zero => intro i wl2 _ q; omega
    | succ fu2 ih2 =>
      intro i wl2 hWl2 me2 iv2_0 kq2
      refine x_iload_n C dX12_worksAll_2 rfl 3 rfl rfl ?_
      refine x_aload_n C dX12_worksAll_3 rfl 0 rfl rfl ?_
      obtain ⟨_, k1, n2, n4, n6, v8, v9, v10, n11, n13, n15, n17, v19, v20, v21, v22, n23, n25, bn3, bn5, bn7, bn12, bn14, bn16, bn18, bn24, bn26, rfl⟩ := hWl2 0 _ rfl
      refine x_get C (ci := 11) (k := 0) 0 k1 rfl in_X12 (by decide) w_1118 rfl dX12_worksAll_4 rfl ?_
      refine x_sipush C (v := 381) dX12_worksAll_7 (by decide) rfl ?_
      obtain ⟨_, k27, f28, pf29, rfl⟩ := hWl2 1 _ rfl
      obtain ⟨n30, hn31, en32⟩ := NB_many pf29
      refine x_ialk C (v := nI n30) 381 (by decide) (by decide) (by decide) 1 k27 en32 dX12_worksAll_10 rfl ?_
      refine x_icmp_ge C (tgt := 56) dX12_worksAll_11 (by decide) rfl (fun c33 => ?_) (fun c33 => ?_)
      · skip
        have nf34 := nI_le' (a := n30) (b := i) c33 (by omega) (by omega)
        exact x_vret C hr hlk dX12_worksAll_56 ⟨hWl2, kq2⟩
      · skip
        have nf35 := nI_nle' (a := n30) (b := i) c33 (by omega) (by omega)
        refine x_aload_n C dX12_worksAll_14 rfl 0 rfl rfl ?_
        refine x_iload_n C dX12_worksAll_15 rfl 3 rfl rfl ?_
        refine x_vi C (As := [.int (nI i)]) (rest := []) (m_isWhole E l a cd hG kf jn js jq wl2 hWl2 ((nI i))) mf_X12_isWhole w_1435 0 k1 rfl rfl rfl (Nat.le_of_ble_eq_true rfl) ⟨(Nat.le_of_ble_eq_true rfl), (Nat.le_of_ble_eq_true rfl)⟩ ⟨(Nat.le_of_ble_eq_true rfl), (Nat.le_of_ble_eq_true rfl)⟩ dX12_worksAll_16 rfl (fun r37 w38 h36 => ?_)
        obtain ⟨hW39, zb40, x41⟩ := h36
        refine x_ws hW39 ?_
        refine x_if_eq C (tgt := 50) dX12_worksAll_19 (by decide) rfl (fun c42 => ?_) (fun c42 => ?_)
        · skip
          refine x_iinc C (v := (nI (i + 1))) (lv' := [(3, .int (nI (i + 1))), (0, .ref (a 0)), (1, .int (nI w0)), (2, .int p1)]) dX12_worksAll_50 3 rfl (nI_add i 1) (by decide) rfl rfl ?_
          refine x_goto C (tgt := 2) dX12_worksAll_53 (by decide) ?_
          refine x_lv (lv1 := [(0, .ref (a 0)), (1, .int (nI w0)), (2, .int p1), (3, .int (nI (i + 1)))]) [1, 2, 3, 0] rfl ?_
          exact ih2 (i + 1) wl2 hWl2 (by omega) (by omega) kq2
        · skip
          have wi43 := wth_le (a := 0) (b := 47) (j := i) (x41 c42) (by omega) (by decide) (by decide)
          refine x_aload_n C dX12_worksAll_22 rfl 0 rfl rfl ?_
          refine x_get C (ci := 11) (k := 0) 0 k1 rfl in_X12 (by decide) w_1118 rfl dX12_worksAll_23 rfl ?_
          refine x_sipush C (v := 144) dX12_worksAll_26 (by decide) rfl ?_
          refine x_iload_n C dX12_worksAll_29 rfl 3 rfl rfl ?_
          refine x_iadd C (v := (nI (144 + i))) dX12_worksAll_30 (nI_add 144 i) rfl ?_
          obtain ⟨n44, hn45, en46⟩ := NB_own (j := i) pf29 (by omega)
          refine x_ialk C (v := nI n44) (144 + i) (nI_clamp (by omega)) (nI_pos (by omega)) (by omega) 1 k27 en46 dX12_worksAll_31 rfl ?_
          refine x_iload_n C dX12_worksAll_32 rfl 2 rfl rfl ?_
          refine x_icmp_ne C (tgt := 50) dX12_worksAll_33 (by decide) rfl (fun c47 => ?_) (fun c47 => ?_)
          · skip
            refine x_iinc C (v := (nI (i + 1))) (lv' := [(3, .int (nI (i + 1))), (0, .ref (a 0)), (1, .int (nI w0)), (2, .int p1)]) dX12_worksAll_50 3 rfl (nI_add i 1) (by decide) rfl rfl ?_
            refine x_goto C (tgt := 2) dX12_worksAll_53 (by decide) ?_
            refine x_lv (lv1 := [(0, .ref (a 0)), (1, .int (nI w0)), (2, .int p1), (3, .int (nI (i + 1)))]) [1, 2, 3, 0] rfl ?_
            exact ih2 (i + 1) wl2 hWl2 (by omega) (by omega) kq2
          · skip
            refine x_aload_n C dX12_worksAll_36 rfl 0 rfl rfl ?_
            refine x_iload_n C dX12_worksAll_37 rfl 1 rfl rfl ?_
            refine x_vi C (As := [.int (nI w0)]) (rest := []) (m_isDone E l a cd hG kf jn js jq wl2 hWl2 w0 (by omega)) mf_X12_isDone w_1431 0 k1 rfl rfl rfl (Nat.le_of_ble_eq_true rfl) ⟨(Nat.le_of_ble_eq_true rfl), (Nat.le_of_ble_eq_true rfl)⟩ ⟨(Nat.le_of_ble_eq_true rfl), (Nat.le_of_ble_eq_true rfl)⟩ dX12_worksAll_38 rfl (fun r49 w50 h48 => ?_)
            obtain ⟨hW51, zb52⟩ := h48
            refine x_ws hW51 ?_
            refine x_if_ne C (tgt := 50) dX12_worksAll_41 (by decide) rfl (fun c53 => ?_) (fun c53 => ?_)
            · skip
              refine x_iinc C (v := (nI (i + 1))) (lv' := [(3, .int (nI (i + 1))), (0, .ref (a 0)), (1, .int (nI w0)), (2, .int p1)]) dX12_worksAll_50 3 rfl (nI_add i 1) (by decide) rfl rfl ?_
              refine x_goto C (tgt := 2) dX12_worksAll_53 (by decide) ?_
              refine x_lv (lv1 := [(0, .ref (a 0)), (1, .int (nI w0)), (2, .int p1), (3, .int (nI (i + 1)))]) [1, 2, 3, 0] rfl ?_
              exact ih2 (i + 1) wl2 hWl2 (by omega) (by omega) kq2
            · skip
              refine x_aload_n C dX12_worksAll_44 rfl 0 rfl rfl ?_
              refine x_iload_n C dX12_worksAll_45 rfl 3 rfl rfl ?_
              refine x_iload_n C dX12_worksAll_46 rfl 1 rfl rfl ?_
              refine x_vv C (As := [.int (nI i), .int (nI w0)]) (rest := []) (m_worksBy E l a cd hG kf jn js jq wl2 hWl2 i w0 (by omega) (by omega)) mf_X12_worksBy w_1447 0 k1 rfl rfl rfl (Nat.le_of_ble_eq_true rfl) ⟨(Nat.le_of_ble_eq_true rfl), (Nat.le_of_ble_eq_true rfl)⟩ ⟨(Nat.le_of_ble_eq_true rfl), (Nat.le_of_ble_eq_true rfl)⟩ dX12_worksAll_47 rfl (fun w56 h54 => ?_)
              obtain ⟨hW57, kq58⟩ := h54
              have k59 : w56[0]? = some (ob (a 0) 11 [.ref (a 1), .ref (a 2), .ref (a 3), .ref (a 4), .int (nI n2), .int (nI n4), .int (nI n6), .int v8, .int v9, .int v10, .int (nI n11), .int (nI n13), .int (nI n15), .int (nI (cd.2.2.2.2.2)), .ref (a 5), .ref (a 6), .ref (a 7), .ref (a 8), .ref (a 9), .ref (a 10), .ref (a 11), .ref (a 12), .ref (a 13), .ref (a 14), .ref (a 15), .ref (a 16), .ref (a 17), .int (nI n17), .ref (a 18), .ref (a 19), .ref (a 20), .ref (a 21), .int v19, .int v20, .int v21, .int v22, .int (nI n23), .int (nI n25), .ref (a 22), .ref (a 23), .ref (a 24), .ref (a 25), .ref (a 26), .ref (a 27), .ref (a 28), .ref (a 29), .ref (a 30), .int kf]) := keeps_at kq58 k1 (by first | decide | omega | (dsimp only; omega))
              have kp60 := keeps_tr kq2 kq58 (fun q hq => by first | omega | (dsimp only at *; omega))
              refine x_iinc C (v := (nI (i + 1))) (lv' := [(3, .int (nI (i + 1))), (0, .ref (a 0)), (1, .int (nI w0)), (2, .int p1)]) dX12_worksAll_50 3 rfl (nI_add i 1) (by decide) rfl rfl ?_
              refine x_goto C (tgt := 2) dX12_worksAll_53 (by decide) ?_
              refine x_lv (lv1 := [(0, .ref (a 0)), (1, .int (nI w0)), (2, .int p1), (3, .int (nI (i + 1)))]) [1, 2, 3, 0] rfl ?_
              exact ih2 (i + 1) w56 hW57 (by omega) (by omega) kp60
  refine x_lv (lv1 := [(0, .ref (a 0)), (1, .int (nI w0)), (2, .int p1), (3, .int 0)]) [1, 2, 3, 0] rfl ?_
  exact loop2 _ 0 ws hW (Nat.lt_succ_self _) (by omega) kp0
theorem dX12_daysFor_0 : decode cX12_daysFor 0 = .ok (.aload_n 0, 1) := by decide +kernel
theorem dX12_daysFor_1 : decode cX12_daysFor 1 = .ok (.getfield 7, 3) := by decide +kernel
theorem dX12_daysFor_4 : decode cX12_daysFor 4 = .ok (.aload_n 0, 1) := by decide +kernel
theorem dX12_daysFor_5 : decode cX12_daysFor 5 = .ok (.getfield 13, 3) := by decide +kernel
theorem dX12_daysFor_8 : decode cX12_daysFor 8 = .ok (.invokestatic 299, 3) := by decide +kernel
theorem dX12_daysFor_11 : decode cX12_daysFor 11 = .ok (.iconst 0, 1) := by decide +kernel
theorem dX12_daysFor_12 : decode cX12_daysFor 12 = .ok (.istore_n 3, 1) := by decide +kernel
theorem dX12_daysFor_13 : decode cX12_daysFor 13 = .ok (.aload_n 0, 1) := by decide +kernel
theorem dX12_daysFor_14 : decode cX12_daysFor 14 = .ok (.iload_n 1, 1) := by decide +kernel
theorem dX12_daysFor_15 : decode cX12_daysFor 15 = .ok (.iload_n 2, 1) := by decide +kernel
theorem dX12_daysFor_16 : decode cX12_daysFor 16 = .ok (.invokevirtual 393, 3) := by decide +kernel
theorem dX12_daysFor_19 : decode cX12_daysFor 19 = .ok (.aload_n 0, 1) := by decide +kernel
theorem dX12_daysFor_20 : decode cX12_daysFor 20 = .ok (.iload_n 1, 1) := by decide +kernel
theorem dX12_daysFor_21 : decode cX12_daysFor 21 = .ok (.invokevirtual 265, 3) := by decide +kernel
theorem dX12_daysFor_24 : decode cX12_daysFor 24 = .ok (.ifCond .ne 40, 3) := by decide +kernel
theorem dX12_daysFor_27 : decode cX12_daysFor 27 = .ok (.iload_n 3, 1) := by decide +kernel
theorem dX12_daysFor_28 : decode cX12_daysFor 28 = .ok (.bipush 60, 2) := by decide +kernel
theorem dX12_daysFor_30 : decode cX12_daysFor 30 = .ok (.if_icmp .ge 34, 3) := by decide +kernel
theorem dX12_daysFor_33 : decode cX12_daysFor 33 = .ok (.aload_n 0, 1) := by decide +kernel
theorem dX12_daysFor_34 : decode cX12_daysFor 34 = .ok (.getfield 7, 3) := by decide +kernel
theorem dX12_daysFor_37 : decode cX12_daysFor 37 = .ok (.sipush 379, 3) := by decide +kernel
theorem dX12_daysFor_40 : decode cX12_daysFor 40 = .ok (.iaload, 1) := by decide +kernel
theorem dX12_daysFor_41 : decode cX12_daysFor 41 = .ok (.sipush 9999, 3) := by decide +kernel
theorem dX12_daysFor_44 : decode cX12_daysFor 44 = .ok (.if_icmp .ge 20, 3) := by decide +kernel
theorem dX12_daysFor_47 : decode cX12_daysFor 47 = .ok (.aload_n 0, 1) := by decide +kernel
theorem dX12_daysFor_48 : decode cX12_daysFor 48 = .ok (.invokevirtual 325, 3) := by decide +kernel
theorem dX12_daysFor_51 : decode cX12_daysFor 51 = .ok (.iload_n 3, 1) := by decide +kernel
theorem dX12_daysFor_52 : decode cX12_daysFor 52 = .ok (.iconst 1, 1) := by decide +kernel
theorem dX12_daysFor_53 : decode cX12_daysFor 53 = .ok (.iadd, 1) := by decide +kernel
theorem dX12_daysFor_54 : decode cX12_daysFor 54 = .ok (.istore_n 3, 1) := by decide +kernel
theorem dX12_daysFor_55 : decode cX12_daysFor 55 = .ok (.aload_n 0, 1) := by decide +kernel
theorem dX12_daysFor_56 : decode cX12_daysFor 56 = .ok (.iload_n 1, 1) := by decide +kernel
theorem dX12_daysFor_57 : decode cX12_daysFor 57 = .ok (.iload_n 2, 1) := by decide +kernel
theorem dX12_daysFor_58 : decode cX12_daysFor 58 = .ok (.invokevirtual 393, 3) := by decide +kernel
theorem dX12_daysFor_61 : decode cX12_daysFor 61 = .ok (.goto (-42), 3) := by decide +kernel
theorem dX12_daysFor_64 : decode cX12_daysFor 64 = .ok (.aload_n 0, 1) := by decide +kernel
theorem dX12_daysFor_65 : decode cX12_daysFor 65 = .ok (.iload_n 1, 1) := by decide +kernel
theorem dX12_daysFor_66 : decode cX12_daysFor 66 = .ok (.invokevirtual 265, 3) := by decide +kernel
theorem dX12_daysFor_69 : decode cX12_daysFor 69 = .ok (.istore 4, 2) := by decide +kernel
theorem dX12_daysFor_71 : decode cX12_daysFor 71 = .ok (.aload_n 0, 1) := by decide +kernel
theorem dX12_daysFor_72 : decode cX12_daysFor 72 = .ok (.getfield 13, 3) := by decide +kernel
theorem dX12_daysFor_75 : decode cX12_daysFor 75 = .ok (.aload_n 0, 1) := by decide +kernel
theorem dX12_daysFor_76 : decode cX12_daysFor 76 = .ok (.getfield 7, 3) := by decide +kernel
theorem dX12_daysFor_79 : decode cX12_daysFor 79 = .ok (.invokestatic 299, 3) := by decide +kernel
theorem dX12_daysFor_82 : decode cX12_daysFor 82 = .ok (.iload 4, 2) := by decide +kernel
theorem dX12_daysFor_84 : decode cX12_daysFor 84 = .ok (.ifCond .eq 7, 3) := by decide +kernel
theorem dX12_daysFor_87 : decode cX12_daysFor 87 = .ok (.iload_n 3, 1) := by decide +kernel
theorem dX12_daysFor_88 : decode cX12_daysFor 88 = .ok (.goto 5, 3) := by decide +kernel
theorem dX12_daysFor_91 : decode cX12_daysFor 91 = .ok (.ldc 246, 2) := by decide +kernel
theorem dX12_daysFor_93 : decode cX12_daysFor 93 = .ok (.ireturn, 1) := by decide +kernel
set_option maxRecDepth 20000 in
set_option maxHeartbeats 4000000 in
theorem m_daysFor (E : xE) (l : Launch) (a : Nat → Nat) (cd : Cd) (hG : Good cd) (kf : Int32) (jn js jq : Lb) (ws : va_W) (hW : WX (okM E a cd kf jn none jq) ws) (w0 : Nat) (p1 : Int32) (hw0 : w0 ≤ 7) : xI E l yX12_daysFor cX12_daysFor 5 (some .int) 6 [.ref (a 0), .int (nI w0), .int p1] ws (fun r w => WX (okM E a cd kf jn none jq) w) := by
  refine xI_start (lv := [(0, .ref (a 0)), (1, .int (nI w0)), (2, .int p1)]) RX12 (by decide) rfl (Nat.le_of_ble_eq_true rfl) rfl (fun p e s m below meth c A C hr hlk => ?_)
  refine x_aload_n C dX12_daysFor_0 rfl 0 rfl rfl ?_
  obtain ⟨_, k1, n2, n4, n6, v8, v9, v10, n11, n13, n15, n17, v19, v20, v21, v22, n23, n25, bn3, bn5, bn7, bn12, bn14, bn16, bn18, bn24, bn26, rfl⟩ := hW 0 _ rfl
  refine x_get C (ci := 11) (k := 0) 0 k1 rfl in_X12 (by decide) w_1118 rfl dX12_daysFor_1 rfl ?_
  refine x_aload_n C dX12_daysFor_4 rfl 0 rfl rfl ?_
  refine x_get C (ci := 11) (k := 1) 0 k1 rfl in_X12 (by decide) w_1119 rfl dX12_daysFor_5 rfl ?_
  refine x_sv C (As := [.ref (a 1), .ref (a 2)]) (rest := []) (m_copies12 E l a cd hG kf jn none jq ws hW) mf_X12_copies w_1490 rfl rfl (Nat.le_of_ble_eq_true rfl) ⟨(Nat.le_of_ble_eq_true rfl), (Nat.le_of_ble_eq_true rfl)⟩ ⟨(Nat.le_of_ble_eq_true rfl), (Nat.le_of_ble_eq_true rfl)⟩ dX12_daysFor_8 rfl (fun w29 h27 => ?_)
  obtain ⟨hW30, kq31⟩ := h27
  have k32 : w29[0]? = some (ob (a 0) 11 [.ref (a 1), .ref (a 2), .ref (a 3), .ref (a 4), .int (nI n2), .int (nI n4), .int (nI n6), .int v8, .int v9, .int v10, .int (nI n11), .int (nI n13), .int (nI n15), .int (nI (cd.2.2.2.2.2)), .ref (a 5), .ref (a 6), .ref (a 7), .ref (a 8), .ref (a 9), .ref (a 10), .ref (a 11), .ref (a 12), .ref (a 13), .ref (a 14), .ref (a 15), .ref (a 16), .ref (a 17), .int (nI n17), .ref (a 18), .ref (a 19), .ref (a 20), .ref (a 21), .int v19, .int v20, .int v21, .int v22, .int (nI n23), .int (nI n25), .ref (a 22), .ref (a 23), .ref (a 24), .ref (a 25), .ref (a 26), .ref (a 27), .ref (a 28), .ref (a 29), .ref (a 30), .int kf]) := keeps_at kq31 k1 (by first | decide | omega | (dsimp only; omega))
  refine x_iconst C (v := 0) dX12_daysFor_11 (by decide) rfl ?_
  refine x_istore_n C (lv' := [(3, .int 0), (0, .ref (a 0)), (1, .int (nI w0)), (2, .int p1)]) dX12_daysFor_12 rfl (by decide) rfl rfl ?_
  refine x_aload_n C dX12_daysFor_13 rfl 1 rfl rfl ?_
  refine x_iload_n C dX12_daysFor_14 rfl 2 rfl rfl ?_
  refine x_iload_n C dX12_daysFor_15 rfl 3 rfl rfl ?_
  refine x_vv C (As := [.int (nI w0), .int p1]) (rest := []) (m_worksAll E l a cd hG kf jn jn jq w29 hW30 w0 p1 (by omega)) mf_X12_worksAll w_1654 0 k32 rfl rfl rfl (Nat.le_of_ble_eq_true rfl) ⟨(Nat.le_of_ble_eq_true rfl), (Nat.le_of_ble_eq_true rfl)⟩ ⟨(Nat.le_of_ble_eq_true rfl), (Nat.le_of_ble_eq_true rfl)⟩ dX12_daysFor_16 rfl (fun w35 h33 => ?_)
  obtain ⟨hW36, kq37⟩ := h33
  have k38 : w35[0]? = some (ob (a 0) 11 [.ref (a 1), .ref (a 2), .ref (a 3), .ref (a 4), .int (nI n2), .int (nI n4), .int (nI n6), .int v8, .int v9, .int v10, .int (nI n11), .int (nI n13), .int (nI n15), .int (nI (cd.2.2.2.2.2)), .ref (a 5), .ref (a 6), .ref (a 7), .ref (a 8), .ref (a 9), .ref (a 10), .ref (a 11), .ref (a 12), .ref (a 13), .ref (a 14), .ref (a 15), .ref (a 16), .ref (a 17), .int (nI n17), .ref (a 18), .ref (a 19), .ref (a 20), .ref (a 21), .int v19, .int v20, .int v21, .int v22, .int (nI n23), .int (nI n25), .ref (a 22), .ref (a 23), .ref (a 24), .ref (a 25), .ref (a 26), .ref (a 27), .ref (a 28), .ref (a 29), .ref (a 30), .int kf]) := keeps_at kq37 k32 (by first | decide | omega | (dsimp only; omega))
  have loop19 : ∀ (fu19 : Nat) (n : Nat) (wl19 : va_W), WX (okM E a cd kf jn jn jq) wl19 → 60 - n < fu19 → n ≤ 60 → X E p l e (xRm 6 0 0) s m ([.ref (a 0), .int (nI w0), .int p1] : List Value).toArray below meth c A 5 0 0 (MQ below (va_Qi (fun r w => WX (okM E a cd kf jn none jq) w) (xB E A) A) ([.ref (a 0), .int (nI w0), .int p1] : List Value).toArray s 0 0 A) wl19 19 [(0, .ref (a 0)), (1, .int (nI w0)), (2, .int p1), (3, .int (nI n))] [] := by
    intro fu19
    induction fu19 with
    | zero => intro n wl19 _ q; omega
    | succ fu19 ih19 =>
      intro n wl19 hWl19 me19 iv19_0
      refine x_aload_n C dX12_daysFor_19 rfl 0 rfl rfl ?_
      refine x_iload_n C dX12_daysFor_20 rfl 1 rfl rfl ?_
      obtain ⟨_, k39, n40, n42, n44, v46, v47, v48, n49, n51, n53, n55, v57, v58, v59, v60, n61, n63, bn41, bn43, bn45, bn50, bn52, bn54, bn56, bn62, bn64, rfl⟩ := hWl19 0 _ rfl
      refine x_vi C (As := [.int (nI w0)]) (rest := []) (m_isDone E l a cd hG kf jn jn jq wl19 hWl19 w0 (by omega)) mf_X12_isDone w_1431 0 k39 rfl rfl rfl (Nat.le_of_ble_eq_true rfl) ⟨(Nat.le_of_ble_eq_true rfl), (Nat.le_of_ble_eq_true rfl)⟩ ⟨(Nat.le_of_ble_eq_true rfl), (Nat.le_of_ble_eq_true rfl)⟩ dX12_daysFor_21 rfl (fun r66 w67 h65 => ?_)
      obtain ⟨hW68, zb69⟩ := h65
      refine x_ws hW68 ?_
      refine x_if_ne C (tgt := 64) dX12_daysFor_24 (by decide) rfl (fun c70 => ?_) (fun c70 => ?_)
      · skip
        refine x_aload_n C dX12_daysFor_64 rfl 0 rfl rfl ?_
        refine x_iload_n C dX12_daysFor_65 rfl 1 rfl rfl ?_
        refine x_vi C (As := [.int (nI w0)]) (rest := []) (m_isDone E l a cd hG kf jn jn jq wl19 hWl19 w0 (by omega)) mf_X12_isDone w_1431 0 k39 rfl rfl rfl (Nat.le_of_ble_eq_true rfl) ⟨(Nat.le_of_ble_eq_true rfl), (Nat.le_of_ble_eq_true rfl)⟩ ⟨(Nat.le_of_ble_eq_true rfl), (Nat.le_of_ble_eq_true rfl)⟩ dX12_daysFor_66 rfl (fun r72 w73 h71 => ?_)
        obtain ⟨hW74, zb75⟩ := h71
        refine x_ws hW74 ?_
        refine x_istore C (lv' := [(4, .int r72), (0, .ref (a 0)), (1, .int (nI w0)), (2, .int p1), (3, .int (nI n))]) dX12_daysFor_69 (by decide) rfl rfl ?_
        refine x_aload_n C dX12_daysFor_71 rfl 1 rfl rfl ?_
        refine x_get C (ci := 11) (k := 1) 0 k39 rfl in_X12 (by decide) w_1119 rfl dX12_daysFor_72 rfl ?_
        refine x_aload_n C dX12_daysFor_75 rfl 1 rfl rfl ?_
        refine x_get C (ci := 11) (k := 0) 0 k39 rfl in_X12 (by decide) w_1118 rfl dX12_daysFor_76 rfl ?_
        refine x_sv C (As := [.ref (a 2), .ref (a 1)]) (rest := []) (m_copies21 E l a cd hG kf jn jn jq wl19 hWl19) mf_X12_copies w_1490 rfl rfl (Nat.le_of_ble_eq_true rfl) ⟨(Nat.le_of_ble_eq_true rfl), (Nat.le_of_ble_eq_true rfl)⟩ ⟨(Nat.le_of_ble_eq_true rfl), (Nat.le_of_ble_eq_true rfl)⟩ dX12_daysFor_79 rfl (fun w78 h76 => ?_)
        obtain ⟨hW79, kq80⟩ := h76
        have k81 : w78[0]? = some (ob (a 0) 11 [.ref (a 1), .ref (a 2), .ref (a 3), .ref (a 4), .int (nI n40), .int (nI n42), .int (nI n44), .int v46, .int v47, .int v48, .int (nI n49), .int (nI n51), .int (nI n53), .int (nI (cd.2.2.2.2.2)), .ref (a 5), .ref (a 6), .ref (a 7), .ref (a 8), .ref (a 9), .ref (a 10), .ref (a 11), .ref (a 12), .ref (a 13), .ref (a 14), .ref (a 15), .ref (a 16), .ref (a 17), .int (nI n55), .ref (a 18), .ref (a 19), .ref (a 20), .ref (a 21), .int v57, .int v58, .int v59, .int v60, .int (nI n61), .int (nI n63), .ref (a 22), .ref (a 23), .ref (a 24), .ref (a 25), .ref (a 26), .ref (a 27), .ref (a 28), .ref (a 29), .ref (a 30), .int kf]) := keeps_at kq80 k39 (by first | decide | omega | (dsimp only; omega))
        refine x_iload C dX12_daysFor_82 0 rfl rfl ?_
        refine x_if_eq C (tgt := 91) dX12_daysFor_84 (by decide) rfl (fun c82 => ?_) (fun c82 => ?_)
        · skip
          refine x_ldc C w_1538 dX12_daysFor_91 rfl ?_
          exact x_zret C hr hlk rfl dX12_daysFor_93 (wxW_s hW79)
        · skip
          refine x_iload_n C dX12_daysFor_87 rfl 4 rfl rfl ?_
          refine x_goto C (tgt := 93) dX12_daysFor_88 (by decide) ?_
          exact x_zret C hr hlk rfl dX12_daysFor_93 (wxW_s hW79)
      · skip
        refine x_iload_n C dX12_daysFor_27 rfl 3 rfl rfl ?_
        refine x_bipush C (v := 60) dX12_daysFor_28 (by decide) rfl ?_
        refine x_icmp_ge C (tgt := 64) dX12_daysFor_30 (by decide) rfl (fun c83 => ?_) (fun c83 => ?_)
        · skip
          have nf84 := nI_le' (a := 60) (b := n) c83 (by omega) (by omega)
          refine x_aload_n C dX12_daysFor_64 rfl 0 rfl rfl ?_
          refine x_iload_n C dX12_daysFor_65 rfl 1 rfl rfl ?_
          refine x_vi C (As := [.int (nI w0)]) (rest := []) (m_isDone E l a cd hG kf jn jn jq wl19 hWl19 w0 (by omega)) mf_X12_isDone w_1431 0 k39 rfl rfl rfl (Nat.le_of_ble_eq_true rfl) ⟨(Nat.le_of_ble_eq_true rfl), (Nat.le_of_ble_eq_true rfl)⟩ ⟨(Nat.le_of_ble_eq_true rfl), (Nat.le_of_ble_eq_true rfl)⟩ dX12_daysFor_66 rfl (fun r86 w87 h85 => ?_)
          obtain ⟨hW88, zb89⟩ := h85
          refine x_ws hW88 ?_
          refine x_istore C (lv' := [(4, .int r86), (0, .ref (a 0)), (1, .int (nI w0)), (2, .int p1), (3, .int (nI n))]) dX12_daysFor_69 (by decide) rfl rfl ?_
          refine x_aload_n C dX12_daysFor_71 rfl 1 rfl rfl ?_
          refine x_get C (ci := 11) (k := 1) 0 k39 rfl in_X12 (by decide) w_1119 rfl dX12_daysFor_72 rfl ?_
          refine x_aload_n C dX12_daysFor_75 rfl 1 rfl rfl ?_
          refine x_get C (ci := 11) (k := 0) 0 k39 rfl in_X12 (by decide) w_1118 rfl dX12_daysFor_76 rfl ?_
          refine x_sv C (As := [.ref (a 2), .ref (a 1)]) (rest := []) (m_copies21 E l a cd hG kf jn jn jq wl19 hWl19) mf_X12_copies w_1490 rfl rfl (Nat.le_of_ble_eq_true rfl) ⟨(Nat.le_of_ble_eq_true rfl), (Nat.le_of_ble_eq_true rfl)⟩ ⟨(Nat.le_of_ble_eq_true rfl), (Nat.le_of_ble_eq_true rfl)⟩ dX12_daysFor_79 rfl (fun w92 h90 => ?_)
          obtain ⟨hW93, kq94⟩ := h90
          have k95 : w92[0]? = some (ob (a 0) 11 [.ref (a 1), .ref (a 2), .ref (a 3), .ref (a 4), .int (nI n40), .int (nI n42), .int (nI n44), .int v46, .int v47, .int v48, .int (nI n49), .int (nI n51), .int (nI n53), .int (nI (cd.2.2.2.2.2)), .ref (a 5), .ref (a 6), .ref (a 7), .ref (a 8), .ref (a 9), .ref (a 10), .ref (a 11), .ref (a 12), .ref (a 13), .ref (a 14), .ref (a 15), .ref (a 16), .ref (a 17), .int (nI n55), .ref (a 18), .ref (a 19), .ref (a 20), .ref (a 21), .int v57, .int v58, .int v59, .int v60, .int (nI n61), .int (nI n63), .ref (a 22), .ref (a 23), .ref (a 24), .ref (a 25), .ref (a 26), .ref (a 27), .ref (a 28), .ref (a 29), .ref (a 30), .int kf]) := keeps_at kq94 k39 (by first | decide | omega | (dsimp only; omega))
          refine x_iload C dX12_daysFor_82 0 rfl rfl ?_
          refine x_if_eq C (tgt := 91) dX12_daysFor_84 (by decide) rfl (fun c96 => ?_) (fun c96 => ?_)
          · skip
            refine x_ldc C w_1538 dX12_daysFor_91 rfl ?_
            exact x_zret C hr hlk rfl dX12_daysFor_93 (wxW_s hW93)
          · skip
            refine x_iload_n C dX12_daysFor_87 rfl 4 rfl rfl ?_
            refine x_goto C (tgt := 93) dX12_daysFor_88 (by decide) ?_
            exact x_zret C hr hlk rfl dX12_daysFor_93 (wxW_s hW93)
        · skip
          have nf97 := nI_nle' (a := 60) (b := n) c83 (by omega) (by omega)
          refine x_aload_n C dX12_daysFor_33 rfl 0 rfl rfl ?_
          refine x_get C (ci := 11) (k := 0) 0 k39 rfl in_X12 (by decide) w_1118 rfl dX12_daysFor_34 rfl ?_
          refine x_sipush C (v := 379) dX12_daysFor_37 (by decide) rfl ?_
          obtain ⟨_, k98, f99, pf100, rfl⟩ := hWl19 1 _ rfl
          obtain ⟨n101, hn102, en103⟩ := NB_day pf100
          refine x_ialk C (v := nI n101) 379 (by decide) (by decide) (by decide) 1 k98 en103 dX12_daysFor_40 rfl ?_
          refine x_sipush C (v := 9999) dX12_daysFor_41 (by decide) rfl ?_
          refine x_icmp_ge C (tgt := 64) dX12_daysFor_44 (by decide) rfl (fun c104 => ?_) (fun c104 => ?_)
          · skip
            have nf105 := nI_le' (a := 9999) (b := n101) c104 (by omega) (by omega)
            refine x_aload_n C dX12_daysFor_64 rfl 0 rfl rfl ?_
            refine x_iload_n C dX12_daysFor_65 rfl 1 rfl rfl ?_
            refine x_vi C (As := [.int (nI w0)]) (rest := []) (m_isDone E l a cd hG kf jn jn jq wl19 hWl19 w0 (by omega)) mf_X12_isDone w_1431 0 k39 rfl rfl rfl (Nat.le_of_ble_eq_true rfl) ⟨(Nat.le_of_ble_eq_true rfl), (Nat.le_of_ble_eq_true rfl)⟩ ⟨(Nat.le_of_ble_eq_true rfl), (Nat.le_of_ble_eq_true rfl)⟩ dX12_daysFor_66 rfl (fun r107 w108 h106 => ?_)
            obtain ⟨hW109, zb110⟩ := h106
            refine x_ws hW109 ?_
            refine x_istore C (lv' := [(4, .int r107), (0, .ref (a 0)), (1, .int (nI w0)), (2, .int p1), (3, .int (nI n))]) dX12_daysFor_69 (by decide) rfl rfl ?_
            refine x_aload_n C dX12_daysFor_71 rfl 1 rfl rfl ?_
            refine x_get C (ci := 11) (k := 1) 0 k39 rfl in_X12 (by decide) w_1119 rfl dX12_daysFor_72 rfl ?_
            refine x_aload_n C dX12_daysFor_75 rfl 1 rfl rfl ?_
            refine x_get C (ci := 11) (k := 0) 0 k39 rfl in_X12 (by decide) w_1118 rfl dX12_daysFor_76 rfl ?_
            refine x_sv C (As := [.ref (a 2), .ref (a 1)]) (rest := []) (m_copies21 E l a cd hG kf jn jn jq wl19 hWl19) mf_X12_copies w_1490 rfl rfl (Nat.le_of_ble_eq_true rfl) ⟨(Nat.le_of_ble_eq_true rfl), (Nat.le_of_ble_eq_true rfl)⟩ ⟨(Nat.le_of_ble_eq_true rfl), (Nat.le_of_ble_eq_true rfl)⟩ dX12_daysFor_79 rfl (fun w113 h111 => ?_)
            obtain ⟨hW114, kq115⟩ := h111
            have k116 : w113[0]? = some (ob (a 0) 11 [.ref (a 1), .ref (a 2), .ref (a 3), .ref (a 4), .int (nI n40), .int (nI n42), .int (nI n44), .int v46, .int v47, .int v48, .int (nI n49), .int (nI n51), .int (nI n53), .int (nI (cd.2.2.2.2.2)), .ref (a 5), .ref (a 6), .ref (a 7), .ref (a 8), .ref (a 9), .ref (a 10), .ref (a 11), .ref (a 12), .ref (a 13), .ref (a 14), .ref (a 15), .ref (a 16), .ref (a 17), .int (nI n55), .ref (a 18), .ref (a 19), .ref (a 20), .ref (a 21), .int v57, .int v58, .int v59, .int v60, .int (nI n61), .int (nI n63), .ref (a 22), .ref (a 23), .ref (a 24), .ref (a 25), .ref (a 26), .ref (a 27), .ref (a 28), .ref (a 29), .ref (a 30), .int kf]) := keeps_at kq115 k39 (by first | decide | omega | (dsimp only; omega))
            refine x_iload C dX12_daysFor_82 0 rfl rfl ?_
            refine x_if_eq C (tgt := 91) dX12_daysFor_84 (by decide) rfl (fun c117 => ?_) (fun c117 => ?_)
            · skip
              refine x_ldc C w_1538 dX12_daysFor_91 rfl ?_
              exact x_zret C hr hlk rfl dX12_daysFor_93 (wxW_s hW114)
            · skip
              refine x_iload_n C dX12_daysFor_87 rfl 4 rfl rfl ?_
              refine x_goto C (tgt := 93) dX12_daysFor_88 (by decide) ?_
              exact x_zret C hr hlk rfl dX12_daysFor_93 (wxW_s hW114)
          · skip
            have nf118 := nI_nle' (a := 9999) (b := n101) c104 (by omega) (by omega)
            refine x_aload_n C dX12_daysFor_47 rfl 0 rfl rfl ?_
            refine x_vv C (As := []) (rest := []) (m_dayGoes E l a cd hG kf jn jn jq wl19 hWl19 f99 k98 n101 (by omega) en103) mf_X12_dayGoes w_1501 0 k39 rfl rfl rfl (Nat.le_of_ble_eq_true rfl) ⟨(Nat.le_of_ble_eq_true rfl), (Nat.le_of_ble_eq_true rfl)⟩ ⟨(Nat.le_of_ble_eq_true rfl), (Nat.le_of_ble_eq_true rfl)⟩ dX12_daysFor_48 rfl (fun w121 h119 => ?_)
            obtain ⟨hW122, kq123⟩ := h119
            refine x_iload_n C dX12_daysFor_51 rfl 3 rfl rfl ?_
            refine x_iconst C (v := 1) dX12_daysFor_52 (by decide) rfl ?_
            refine x_iadd C (v := (nI (n + 1))) dX12_daysFor_53 (nI_add n 1) rfl ?_
            refine x_istore_n C (lv' := [(3, .int (nI (n + 1))), (0, .ref (a 0)), (1, .int (nI w0)), (2, .int p1)]) dX12_daysFor_54 rfl (by decide) rfl rfl ?_
            refine x_aload_n C dX12_daysFor_55 rfl 1 rfl rfl ?_
            refine x_iload_n C dX12_daysFor_56 rfl 2 rfl rfl ?_
            refine x_iload_n C dX12_daysFor_57 rfl 3 rfl rfl ?_
            obtain ⟨_, k124, n125, n127, n129, v131, v132, v133, n134, n136, n138, n140, v142, v143, v144, v145, n146, n148, bn126, bn128, bn130, bn135, bn137, bn139, bn141, bn147, bn149, rfl⟩ := hW122 0 _ rfl
            refine x_vv C (As := [.int (nI w0), .int p1]) (rest := []) (m_worksAll E l a cd hG kf jn jn jq w121 hW122 w0 p1 (by omega)) mf_X12_worksAll w_1654 0 k124 rfl rfl rfl (Nat.le_of_ble_eq_true rfl) ⟨(Nat.le_of_ble_eq_true rfl), (Nat.le_of_ble_eq_true rfl)⟩ ⟨(Nat.le_of_ble_eq_true rfl), (Nat.le_of_ble_eq_true rfl)⟩ dX12_daysFor_58 rfl (fun w152 h150 => ?_)
            obtain ⟨hW153, kq154⟩ := h150
            have k155 : w152[0]? = some (ob (a 0) 11 [.ref (a 1), .ref (a 2), .ref (a 3), .ref (a 4), .int (nI n125), .int (nI n127), .int (nI n129), .int v131, .int v132, .int v133, .int (nI n134), .int (nI n136), .int (nI n138), .int (nI (cd.2.2.2.2.2)), .ref (a 5), .ref (a 6), .ref (a 7), .ref (a 8), .ref (a 9), .ref (a 10), .ref (a 11), .ref (a 12), .ref (a 13), .ref (a 14), .ref (a 15), .ref (a 16), .ref (a 17), .int (nI n140), .ref (a 18), .ref (a 19), .ref (a 20), .ref (a 21), .int v142, .int v143, .int v144, .int v145, .int (nI n146), .int (nI n148), .ref (a 22), .ref (a 23), .ref (a 24), .ref (a 25), .ref (a 26), .ref (a 27), .ref (a 28), .ref (a 29), .ref (a 30), .int kf]) := keeps_at kq154 k124 (by first | decide | omega | (dsimp only; omega))
            refine x_goto C (tgt := 19) dX12_daysFor_61 (by decide) ?_
            refine x_lv (lv1 := [(0, .ref (a 0)), (1, .int (nI w0)), (2, .int p1), (3, .int (nI (n + 1)))]) [1, 2, 3, 0] rfl ?_
            exact ih19 (n + 1) w152 hW153 (by omega) (by omega)
  refine x_lv (lv1 := [(0, .ref (a 0)), (1, .int (nI w0)), (2, .int p1), (3, .int 0)]) [1, 2, 3, 0] rfl ?_
  exact loop19 _ 0 w35 hW36 (Nat.lt_succ_self _) (by omega)
theorem dX12_soonest_0 : decode cX12_soonest 0 = .ok (.aload_n 0, 1) := by decide +kernel
theorem dX12_soonest_1 : decode cX12_soonest 1 = .ok (.iload_n 1, 1) := by decide +kernel
theorem dX12_soonest_2 : decode cX12_soonest 2 = .ok (.invokevirtual 262, 3) := by decide +kernel
theorem dX12_soonest_5 : decode cX12_soonest 5 = .ok (.ifCond .eq 17, 3) := by decide +kernel
theorem dX12_soonest_8 : decode cX12_soonest 8 = .ok (.iload_n 2, 1) := by decide +kernel
theorem dX12_soonest_9 : decode cX12_soonest 9 = .ok (.bipush 8, 2) := by decide +kernel
theorem dX12_soonest_11 : decode cX12_soonest 11 = .ok (.if_icmp .eq 13, 3) := by decide +kernel
theorem dX12_soonest_14 : decode cX12_soonest 14 = .ok (.aload_n 0, 1) := by decide +kernel
theorem dX12_soonest_15 : decode cX12_soonest 15 = .ok (.iload_n 2, 1) := by decide +kernel
theorem dX12_soonest_16 : decode cX12_soonest 16 = .ok (.invokevirtual 113, 3) := by decide +kernel
theorem dX12_soonest_19 : decode cX12_soonest 19 = .ok (.ifCond .ne 5, 3) := by decide +kernel
theorem dX12_soonest_22 : decode cX12_soonest 22 = .ok (.iconst (-1), 1) := by decide +kernel
theorem dX12_soonest_23 : decode cX12_soonest 23 = .ok (.ireturn, 1) := by decide +kernel
theorem dX12_soonest_24 : decode cX12_soonest 24 = .ok (.aload_n 0, 1) := by decide +kernel
theorem dX12_soonest_25 : decode cX12_soonest 25 = .ok (.iload_n 1, 1) := by decide +kernel
theorem dX12_soonest_26 : decode cX12_soonest 26 = .ok (.invokevirtual 265, 3) := by decide +kernel
theorem dX12_soonest_29 : decode cX12_soonest 29 = .ok (.ifCond .eq 6, 3) := by decide +kernel
theorem dX12_soonest_32 : decode cX12_soonest 32 = .ok (.bipush (-3), 2) := by decide +kernel
theorem dX12_soonest_34 : decode cX12_soonest 34 = .ok (.ireturn, 1) := by decide +kernel
theorem dX12_soonest_35 : decode cX12_soonest 35 = .ok (.iload_n 2, 1) := by decide +kernel
theorem dX12_soonest_36 : decode cX12_soonest 36 = .ok (.bipush 8, 2) := by decide +kernel
theorem dX12_soonest_38 : decode cX12_soonest 38 = .ok (.if_icmp .eq 26, 3) := by decide +kernel
theorem dX12_soonest_41 : decode cX12_soonest 41 = .ok (.aload_n 0, 1) := by decide +kernel
theorem dX12_soonest_42 : decode cX12_soonest 42 = .ok (.iload_n 1, 1) := by decide +kernel
theorem dX12_soonest_43 : decode cX12_soonest 43 = .ok (.iload_n 2, 1) := by decide +kernel
theorem dX12_soonest_44 : decode cX12_soonest 44 = .ok (.invokevirtual 396, 3) := by decide +kernel
theorem dX12_soonest_47 : decode cX12_soonest 47 = .ok (.ldc 246, 2) := by decide +kernel
theorem dX12_soonest_49 : decode cX12_soonest 49 = .ok (.if_icmp .ne 8, 3) := by decide +kernel
theorem dX12_soonest_52 : decode cX12_soonest 52 = .ok (.bipush (-2), 2) := by decide +kernel
theorem dX12_soonest_54 : decode cX12_soonest 54 = .ok (.goto 9, 3) := by decide +kernel
theorem dX12_soonest_57 : decode cX12_soonest 57 = .ok (.aload_n 0, 1) := by decide +kernel
theorem dX12_soonest_58 : decode cX12_soonest 58 = .ok (.iload_n 1, 1) := by decide +kernel
theorem dX12_soonest_59 : decode cX12_soonest 59 = .ok (.iload_n 2, 1) := by decide +kernel
theorem dX12_soonest_60 : decode cX12_soonest 60 = .ok (.invokevirtual 396, 3) := by decide +kernel
theorem dX12_soonest_63 : decode cX12_soonest 63 = .ok (.ireturn, 1) := by decide +kernel
theorem dX12_soonest_64 : decode cX12_soonest 64 = .ok (.bipush (-2), 2) := by decide +kernel
theorem dX12_soonest_66 : decode cX12_soonest 66 = .ok (.istore_n 3, 1) := by decide +kernel
theorem dX12_soonest_67 : decode cX12_soonest 67 = .ok (.ldc 246, 2) := by decide +kernel
theorem dX12_soonest_69 : decode cX12_soonest 69 = .ok (.istore 4, 2) := by decide +kernel
theorem dX12_soonest_71 : decode cX12_soonest 71 = .ok (.iconst 0, 1) := by decide +kernel
theorem dX12_soonest_72 : decode cX12_soonest 72 = .ok (.istore 5, 2) := by decide +kernel
theorem dX12_soonest_74 : decode cX12_soonest 74 = .ok (.iload 5, 2) := by decide +kernel
theorem dX12_soonest_76 : decode cX12_soonest 76 = .ok (.bipush 8, 2) := by decide +kernel
theorem dX12_soonest_78 : decode cX12_soonest 78 = .ok (.if_icmp .ge 45, 3) := by decide +kernel
theorem dX12_soonest_81 : decode cX12_soonest 81 = .ok (.aload_n 0, 1) := by decide +kernel
theorem dX12_soonest_82 : decode cX12_soonest 82 = .ok (.iload 5, 2) := by decide +kernel
theorem dX12_soonest_84 : decode cX12_soonest 84 = .ok (.invokevirtual 113, 3) := by decide +kernel
theorem dX12_soonest_87 : decode cX12_soonest 87 = .ok (.ifCond .eq 30, 3) := by decide +kernel
theorem dX12_soonest_90 : decode cX12_soonest 90 = .ok (.aload_n 0, 1) := by decide +kernel
theorem dX12_soonest_91 : decode cX12_soonest 91 = .ok (.iload_n 1, 1) := by decide +kernel
theorem dX12_soonest_92 : decode cX12_soonest 92 = .ok (.iload 5, 2) := by decide +kernel
theorem dX12_soonest_94 : decode cX12_soonest 94 = .ok (.invokevirtual 396, 3) := by decide +kernel
theorem dX12_soonest_97 : decode cX12_soonest 97 = .ok (.iload 4, 2) := by decide +kernel
theorem dX12_soonest_99 : decode cX12_soonest 99 = .ok (.if_icmp .lt 6, 3) := by decide +kernel
theorem dX12_soonest_102 : decode cX12_soonest 102 = .ok (.goto 15, 3) := by decide +kernel
theorem dX12_soonest_105 : decode cX12_soonest 105 = .ok (.aload_n 0, 1) := by decide +kernel
theorem dX12_soonest_106 : decode cX12_soonest 106 = .ok (.iload_n 1, 1) := by decide +kernel
theorem dX12_soonest_107 : decode cX12_soonest 107 = .ok (.iload 5, 2) := by decide +kernel
theorem dX12_soonest_109 : decode cX12_soonest 109 = .ok (.invokevirtual 396, 3) := by decide +kernel
theorem dX12_soonest_112 : decode cX12_soonest 112 = .ok (.istore 4, 2) := by decide +kernel
theorem dX12_soonest_114 : decode cX12_soonest 114 = .ok (.iload 5, 2) := by decide +kernel
theorem dX12_soonest_116 : decode cX12_soonest 116 = .ok (.istore_n 3, 1) := by decide +kernel
theorem dX12_soonest_117 : decode cX12_soonest 117 = .ok (.iinc 5 1, 3) := by decide +kernel
theorem dX12_soonest_120 : decode cX12_soonest 120 = .ok (.goto (-46), 3) := by decide +kernel
theorem dX12_soonest_123 : decode cX12_soonest 123 = .ok (.iload_n 3, 1) := by decide +kernel
theorem dX12_soonest_124 : decode cX12_soonest 124 = .ok (.ireturn, 1) := by decide +kernel
set_option maxRecDepth 20000 in
set_option maxHeartbeats 4000000 in
theorem m_soonest (E : xE) (l : Launch) (a : Nat → Nat) (cd : Cd) (hG : Good cd) (kf : Int32) (jn js jq : Lb) (ws : va_W) (hW : WX (okM E a cd kf jn none jq) ws) (p0 : Int32) (p1 : Int32) : xI E l yX12_soonest cX12_soonest 6 (some .int) 8 [.ref (a 0), .int p0, .int p1] ws (fun r w => WX (okM E a cd kf jn none jq) w) := by
  refine xI_start (lv := [(0, .ref (a 0)), (1, .int p0), (2, .int p1)]) RX12 (by decide) rfl (Nat.le_of_ble_eq_true rfl) rfl (fun p e s m below meth c A C hr hlk => ?_)
  refine x_aload_n C dX12_soonest_0 rfl 0 rfl rfl ?_
  refine x_iload_n C dX12_soonest_1 rfl 1 rfl rfl ?_
  obtain ⟨_, k1, n2, n4, n6, v8, v9, v10, n11, n13, n15, n17, v19, v20, v21, v22, n23, n25, bn3, bn5, bn7, bn12, bn14, bn16, bn18, bn24, bn26, rfl⟩ := hW 0 _ rfl
  refine x_vi C (As := [.int p0]) (rest := []) (m_isWork E l a cd hG kf jn none jq ws hW p0) mf_X12_isWork w_1427 0 k1 rfl rfl rfl (Nat.le_of_ble_eq_true rfl) ⟨(Nat.le_of_ble_eq_true rfl), (Nat.le_of_ble_eq_true rfl)⟩ ⟨(Nat.le_of_ble_eq_true rfl), (Nat.le_of_ble_eq_true rfl)⟩ dX12_soonest_2 rfl (fun r28 w29 h27 => ?_)
  obtain ⟨hW30, zb31, x32⟩ := h27
  refine x_ws hW30 ?_
  refine x_if_eq C (tgt := 22) dX12_soonest_5 (by decide) rfl (fun c33 => ?_) (fun c33 => ?_)
  · skip
    refine x_iconst C (v := (-1)) dX12_soonest_22 (by decide) rfl ?_
    exact x_zret C hr hlk rfl dX12_soonest_23 hW
  · skip
    obtain ⟨j34, hl35, hh36, ej37⟩ := w_nat (a := 0) (b := 7) (by decide) (by decide) (x32 c33)
    subst ej37
    refine x_iload_n C dX12_soonest_8 rfl 2 rfl rfl ?_
    refine x_bipush C (v := 8) dX12_soonest_9 (by decide) rfl ?_
    refine x_icmp_eq C (tgt := 24) dX12_soonest_11 (by decide) rfl (fun c38 => ?_) (fun c38 => ?_)
    · skip
      refine x_aload_n C dX12_soonest_24 rfl 0 rfl rfl ?_
      refine x_iload_n C dX12_soonest_25 rfl 1 rfl rfl ?_
      refine x_vi C (As := [.int (nI j34)]) (rest := []) (m_isDone E l a cd hG kf jn none jq ws hW j34 (by omega)) mf_X12_isDone w_1431 0 k1 rfl rfl rfl (Nat.le_of_ble_eq_true rfl) ⟨(Nat.le_of_ble_eq_true rfl), (Nat.le_of_ble_eq_true rfl)⟩ ⟨(Nat.le_of_ble_eq_true rfl), (Nat.le_of_ble_eq_true rfl)⟩ dX12_soonest_26 rfl (fun r40 w41 h39 => ?_)
      obtain ⟨hW42, zb43⟩ := h39
      refine x_ws hW42 ?_
      refine x_if_eq C (tgt := 35) dX12_soonest_29 (by decide) rfl (fun c44 => ?_) (fun c44 => ?_)
      · skip
        refine x_iload_n C dX12_soonest_35 rfl 2 rfl rfl ?_
        refine x_bipush C (v := 8) dX12_soonest_36 (by decide) rfl ?_
        refine x_icmp_eq C (tgt := 64) dX12_soonest_38 (by decide) rfl (fun c45 => ?_) (fun c45 => ?_)
        · skip
          refine x_bipush C (v := (-2)) dX12_soonest_64 (by decide) rfl ?_
          refine x_istore_n C (lv' := [(3, .int (-2)), (0, .ref (a 0)), (1, .int (nI j34)), (2, .int p1)]) dX12_soonest_66 rfl (by decide) rfl rfl ?_
          refine x_ldc C w_1538 dX12_soonest_67 rfl ?_
          refine x_istore C (lv' := [(4, .int 1000000000), (3, .int (-2)), (0, .ref (a 0)), (1, .int (nI j34)), (2, .int p1)]) dX12_soonest_69 (by decide) rfl rfl ?_
          refine x_iconst C (v := 0) dX12_soonest_71 (by decide) rfl ?_
          refine x_istore C (lv' := [(5, .int 0), (4, .int 1000000000), (3, .int (-2)), (0, .ref (a 0)), (1, .int (nI j34)), (2, .int p1)]) dX12_soonest_72 (by decide) rfl rfl ?_
          have loop74 : ∀ (fu74 : Nat) (z74_3 : Int32) (z74_4 : Int32) (wh : Nat) (wl74 : va_W), WX (okM E a cd kf jn none jq) wl74 → 8 - wh < fu74 → wh ≤ 8 → X E p l e (xRm 8 0 0) s m ([.ref (a 0), .int (nI j34), .int p1] : List Value).toArray below meth c A 6 0 0 (MQ below (va_Qi (fun r w => WX (okM E a cd kf jn none jq) w) (xB E A) A) ([.ref (a 0), .int (nI j34), .int p1] : List Value).toArray s 0 0 A) wl74 74 [(0, .ref (a 0)), (1, .int (nI j34)), (2, .int p1), (3, .int z74_3), (4, .int z74_4), (5, .int (nI wh))] [] := by
            intro fu74
            induction fu74 with
            | zero => intro z74_3 z74_4 wh wl74 _ q; omega
            | succ fu74 ih74 =>
              intro z74_3 z74_4 wh wl74 hWl74 me74 iv74_0
              refine x_iload C dX12_soonest_74 5 rfl rfl ?_
              refine x_bipush C (v := 8) dX12_soonest_76 (by decide) rfl ?_
              refine x_icmp_ge C (tgt := 123) dX12_soonest_78 (by decide) rfl (fun c46 => ?_) (fun c46 => ?_)
              · skip
                have nf47 := nI_le' (a := 8) (b := wh) c46 (by omega) (by omega)
                refine x_iload_n C dX12_soonest_123 rfl 3 rfl rfl ?_
                exact x_zret C hr hlk rfl dX12_soonest_124 hWl74
              · skip
                have nf48 := nI_nle' (a := 8) (b := wh) c46 (by omega) (by omega)
                refine x_aload_n C dX12_soonest_81 rfl 0 rfl rfl ?_
                refine x_iload C dX12_soonest_82 5 rfl rfl ?_
                obtain ⟨_, k49, n50, n52, n54, v56, v57, v58, n59, n61, n63, n65, v67, v68, v69, v70, n71, n73, bn51, bn53, bn55, bn60, bn62, bn64, bn66, bn72, bn74, rfl⟩ := hWl74 0 _ rfl
                refine x_vi C (As := [.int (nI wh)]) (rest := []) (m_isPerson E l a cd hG kf jn none jq wl74 hWl74 ((nI wh))) mf_X12_isPerson w_1270 0 k49 rfl rfl rfl (Nat.le_of_ble_eq_true rfl) ⟨(Nat.le_of_ble_eq_true rfl), (Nat.le_of_ble_eq_true rfl)⟩ ⟨(Nat.le_of_ble_eq_true rfl), (Nat.le_of_ble_eq_true rfl)⟩ dX12_soonest_84 rfl (fun r76 w77 h75 => ?_)
                obtain ⟨hW78, zb79, x80⟩ := h75
                refine x_ws hW78 ?_
                refine x_if_eq C (tgt := 117) dX12_soonest_87 (by decide) rfl (fun c81 => ?_) (fun c81 => ?_)
                · skip
                  refine x_iinc C (v := (nI (wh + 1))) (lv' := [(5, .int (nI (wh + 1))), (0, .ref (a 0)), (1, .int (nI j34)), (2, .int p1), (3, .int z74_3), (4, .int z74_4)]) dX12_soonest_117 5 rfl (nI_add wh 1) (by decide) rfl rfl ?_
                  refine x_goto C (tgt := 74) dX12_soonest_120 (by decide) ?_
                  refine x_lv (lv1 := [(0, .ref (a 0)), (1, .int (nI j34)), (2, .int p1), (3, .int z74_3), (4, .int z74_4), (5, .int (nI (wh + 1)))]) [1, 2, 3, 4, 5, 0] rfl ?_
                  exact ih74 z74_3 z74_4 (wh + 1) wl74 hWl74 (by omega) (by omega)
                · skip
                  have wi82 := wth_le (a := 0) (b := 7) (j := wh) (x80 c81) (by omega) (by decide) (by decide)
                  refine x_aload_n C dX12_soonest_90 rfl 0 rfl rfl ?_
                  refine x_iload_n C dX12_soonest_91 rfl 1 rfl rfl ?_
                  refine x_iload C dX12_soonest_92 5 rfl rfl ?_
                  refine x_vi C (As := [.int (nI j34), .int (nI wh)]) (rest := []) (m_daysFor E l a cd hG kf jn none jq wl74 hWl74 j34 ((nI wh)) (by omega)) mf_X12_daysFor w_1650 0 k49 rfl rfl rfl (Nat.le_of_ble_eq_true rfl) ⟨(Nat.le_of_ble_eq_true rfl), (Nat.le_of_ble_eq_true rfl)⟩ ⟨(Nat.le_of_ble_eq_true rfl), (Nat.le_of_ble_eq_true rfl)⟩ dX12_soonest_94 rfl (fun r84 w85 h83 => ?_)
                  have hW86 := h83
                  refine x_iload C dX12_soonest_97 4 rfl rfl ?_
                  refine x_icmp_lt C (tgt := 105) dX12_soonest_99 (by decide) rfl (fun c87 => ?_) (fun c87 => ?_)
                  · skip
                    refine x_aload_n C dX12_soonest_105 rfl 0 rfl rfl ?_
                    refine x_iload_n C dX12_soonest_106 rfl 1 rfl rfl ?_
                    refine x_iload C dX12_soonest_107 5 rfl rfl ?_
                    obtain ⟨_, k88, n89, n91, n93, v95, v96, v97, n98, n100, n102, n104, v106, v107, v108, v109, n110, n112, bn90, bn92, bn94, bn99, bn101, bn103, bn105, bn111, bn113, rfl⟩ := hW86 0 _ rfl
                    refine x_vi C (As := [.int (nI j34), .int (nI wh)]) (rest := []) (m_daysFor E l a cd hG kf jn none jq w85 hW86 j34 ((nI wh)) (by omega)) mf_X12_daysFor w_1650 0 k88 rfl rfl rfl (Nat.le_of_ble_eq_true rfl) ⟨(Nat.le_of_ble_eq_true rfl), (Nat.le_of_ble_eq_true rfl)⟩ ⟨(Nat.le_of_ble_eq_true rfl), (Nat.le_of_ble_eq_true rfl)⟩ dX12_soonest_109 rfl (fun r115 w116 h114 => ?_)
                    have hW117 := h114
                    refine x_istore C (lv' := [(4, .int r115), (0, .ref (a 0)), (1, .int (nI j34)), (2, .int p1), (3, .int z74_3), (5, .int (nI wh))]) dX12_soonest_112 (by decide) rfl rfl ?_
                    refine x_iload C dX12_soonest_114 5 rfl rfl ?_
                    refine x_istore_n C (lv' := [(3, .int (nI wh)), (4, .int r115), (0, .ref (a 0)), (1, .int (nI j34)), (2, .int p1), (5, .int (nI wh))]) dX12_soonest_116 rfl (by decide) rfl rfl ?_
                    refine x_iinc C (v := (nI (wh + 1))) (lv' := [(5, .int (nI (wh + 1))), (3, .int (nI wh)), (4, .int r115), (0, .ref (a 0)), (1, .int (nI j34)), (2, .int p1)]) dX12_soonest_117 5 rfl (nI_add wh 1) (by decide) rfl rfl ?_
                    refine x_goto C (tgt := 74) dX12_soonest_120 (by decide) ?_
                    refine x_lv (lv1 := [(0, .ref (a 0)), (1, .int (nI j34)), (2, .int p1), (3, .int (nI wh)), (4, .int r115), (5, .int (nI (wh + 1)))]) [3, 4, 5, 1, 2, 0] rfl ?_
                    exact ih74 ((nI wh)) r115 (wh + 1) w116 hW117 (by omega) (by omega)
                  · skip
                    refine x_goto C (tgt := 117) dX12_soonest_102 (by decide) ?_
                    refine x_iinc C (v := (nI (wh + 1))) (lv' := [(5, .int (nI (wh + 1))), (0, .ref (a 0)), (1, .int (nI j34)), (2, .int p1), (3, .int z74_3), (4, .int z74_4)]) dX12_soonest_117 5 rfl (nI_add wh 1) (by decide) rfl rfl ?_
                    refine x_goto C (tgt := 74) dX12_soonest_120 (by decide) ?_
                    refine x_lv (lv1 := [(0, .ref (a 0)), (1, .int (nI j34)), (2, .int p1), (3, .int z74_3), (4, .int z74_4), (5, .int (nI (wh + 1)))]) [1, 2, 3, 4, 5, 0] rfl ?_
                    exact ih74 z74_3 z74_4 (wh + 1) w85 hW86 (by omega) (by omega)
          refine x_lv (lv1 := [(0, .ref (a 0)), (1, .int (nI j34)), (2, .int p1), (3, .int (-2)), (4, .int 1000000000), (5, .int 0)]) [3, 4, 5, 2, 1, 0] rfl ?_
          exact loop74 _ ((-2) : Int32) (1000000000 : Int32) 0 ws hW (Nat.lt_succ_self _) (by omega)
        · skip
          refine x_aload_n C dX12_soonest_41 rfl 0 rfl rfl ?_
          refine x_iload_n C dX12_soonest_42 rfl 1 rfl rfl ?_
          refine x_iload_n C dX12_soonest_43 rfl 2 rfl rfl ?_
          refine x_vi C (As := [.int (nI j34), .int p1]) (rest := []) (m_daysFor E l a cd hG kf jn none jq ws hW j34 p1 (by omega)) mf_X12_daysFor w_1650 0 k1 rfl rfl rfl (Nat.le_of_ble_eq_true rfl) ⟨(Nat.le_of_ble_eq_true rfl), (Nat.le_of_ble_eq_true rfl)⟩ ⟨(Nat.le_of_ble_eq_true rfl), (Nat.le_of_ble_eq_true rfl)⟩ dX12_soonest_44 rfl (fun r119 w120 h118 => ?_)
          have hW121 := h118
          refine x_ldc C w_1538 dX12_soonest_47 rfl ?_
          refine x_icmp_ne C (tgt := 57) dX12_soonest_49 (by decide) rfl (fun c122 => ?_) (fun c122 => ?_)
          · skip
            refine x_aload_n C dX12_soonest_57 rfl 0 rfl rfl ?_
            refine x_iload_n C dX12_soonest_58 rfl 1 rfl rfl ?_
            refine x_iload_n C dX12_soonest_59 rfl 2 rfl rfl ?_
            obtain ⟨_, k123, n124, n126, n128, v130, v131, v132, n133, n135, n137, n139, v141, v142, v143, v144, n145, n147, bn125, bn127, bn129, bn134, bn136, bn138, bn140, bn146, bn148, rfl⟩ := hW121 0 _ rfl
            refine x_vi C (As := [.int (nI j34), .int p1]) (rest := []) (m_daysFor E l a cd hG kf jn none jq w120 hW121 j34 p1 (by omega)) mf_X12_daysFor w_1650 0 k123 rfl rfl rfl (Nat.le_of_ble_eq_true rfl) ⟨(Nat.le_of_ble_eq_true rfl), (Nat.le_of_ble_eq_true rfl)⟩ ⟨(Nat.le_of_ble_eq_true rfl), (Nat.le_of_ble_eq_true rfl)⟩ dX12_soonest_60 rfl (fun r150 w151 h149 => ?_)
            have hW152 := h149
            exact x_zret C hr hlk rfl dX12_soonest_63 hW152
          · skip
            refine x_bipush C (v := (-2)) dX12_soonest_52 (by decide) rfl ?_
            refine x_goto C (tgt := 63) dX12_soonest_54 (by decide) ?_
            exact x_zret C hr hlk rfl dX12_soonest_63 hW121
      · skip
        refine x_bipush C (v := (-3)) dX12_soonest_32 (by decide) rfl ?_
        exact x_zret C hr hlk rfl dX12_soonest_34 hW
    · skip
      refine x_aload_n C dX12_soonest_14 rfl 0 rfl rfl ?_
      refine x_iload_n C dX12_soonest_15 rfl 2 rfl rfl ?_
      refine x_vi C (As := [.int p1]) (rest := []) (m_isPerson E l a cd hG kf jn none jq ws hW p1) mf_X12_isPerson w_1270 0 k1 rfl rfl rfl (Nat.le_of_ble_eq_true rfl) ⟨(Nat.le_of_ble_eq_true rfl), (Nat.le_of_ble_eq_true rfl)⟩ ⟨(Nat.le_of_ble_eq_true rfl), (Nat.le_of_ble_eq_true rfl)⟩ dX12_soonest_16 rfl (fun r154 w155 h153 => ?_)
      obtain ⟨hW156, zb157, x158⟩ := h153
      refine x_ws hW156 ?_
      refine x_if_ne C (tgt := 24) dX12_soonest_19 (by decide) rfl (fun c159 => ?_) (fun c159 => ?_)
      · skip
        obtain ⟨j160, hl161, hh162, ej163⟩ := w_nat (a := 0) (b := 7) (by decide) (by decide) (x158 c159)
        subst ej163
        refine x_aload_n C dX12_soonest_24 rfl 0 rfl rfl ?_
        refine x_iload_n C dX12_soonest_25 rfl 1 rfl rfl ?_
        refine x_vi C (As := [.int (nI j34)]) (rest := []) (m_isDone E l a cd hG kf jn none jq ws hW j34 (by omega)) mf_X12_isDone w_1431 0 k1 rfl rfl rfl (Nat.le_of_ble_eq_true rfl) ⟨(Nat.le_of_ble_eq_true rfl), (Nat.le_of_ble_eq_true rfl)⟩ ⟨(Nat.le_of_ble_eq_true rfl), (Nat.le_of_ble_eq_true rfl)⟩ dX12_soonest_26 rfl (fun r165 w166 h164 => ?_)
        obtain ⟨hW167, zb168⟩ := h164
        refine x_ws hW167 ?_
        refine x_if_eq C (tgt := 35) dX12_soonest_29 (by decide) rfl (fun c169 => ?_) (fun c169 => ?_)
        · skip
          refine x_iload_n C dX12_soonest_35 rfl 2 rfl rfl ?_
          refine x_bipush C (v := 8) dX12_soonest_36 (by decide) rfl ?_
          refine x_icmp_eq C (tgt := 64) dX12_soonest_38 (by decide) rfl (fun c170 => ?_) (fun c170 => ?_)
          · skip
            have nf171 : j160 = 8 := (nI_eq (by omega) (by omega)).mp c170
            refine x_bipush C (v := (-2)) dX12_soonest_64 (by decide) rfl ?_
            refine x_istore_n C (lv' := [(3, .int (-2)), (0, .ref (a 0)), (1, .int (nI j34)), (2, .int (nI j160))]) dX12_soonest_66 rfl (by decide) rfl rfl ?_
            refine x_ldc C w_1538 dX12_soonest_67 rfl ?_
            refine x_istore C (lv' := [(4, .int 1000000000), (3, .int (-2)), (0, .ref (a 0)), (1, .int (nI j34)), (2, .int (nI j160))]) dX12_soonest_69 (by decide) rfl rfl ?_
            refine x_iconst C (v := 0) dX12_soonest_71 (by decide) rfl ?_
            refine x_istore C (lv' := [(5, .int 0), (4, .int 1000000000), (3, .int (-2)), (0, .ref (a 0)), (1, .int (nI j34)), (2, .int (nI j160))]) dX12_soonest_72 (by decide) rfl rfl ?_
            have loop74 : ∀ (fu74 : Nat) (z74_3 : Int32) (z74_4 : Int32) (wh : Nat) (wl74 : va_W), WX (okM E a cd kf jn none jq) wl74 → 8 - wh < fu74 → wh ≤ 8 → X E p l e (xRm 8 0 0) s m ([.ref (a 0), .int (nI j34), .int (nI j160)] : List Value).toArray below meth c A 6 0 0 (MQ below (va_Qi (fun r w => WX (okM E a cd kf jn none jq) w) (xB E A) A) ([.ref (a 0), .int (nI j34), .int (nI j160)] : List Value).toArray s 0 0 A) wl74 74 [(0, .ref (a 0)), (1, .int (nI j34)), (2, .int (nI j160)), (3, .int z74_3), (4, .int z74_4), (5, .int (nI wh))] [] := by
              intro fu74
              induction fu74 with
              | zero => intro z74_3 z74_4 wh wl74 _ q; omega
              | succ fu74 ih74 =>
                intro z74_3 z74_4 wh wl74 hWl74 me74 iv74_0
                refine x_iload C dX12_soonest_74 5 rfl rfl ?_
                refine x_bipush C (v := 8) dX12_soonest_76 (by decide) rfl ?_
                refine x_icmp_ge C (tgt := 123) dX12_soonest_78 (by decide) rfl (fun c172 => ?_) (fun c172 => ?_)
                · skip
                  have nf173 := nI_le' (a := 8) (b := wh) c172 (by omega) (by omega)
                  refine x_iload_n C dX12_soonest_123 rfl 3 rfl rfl ?_
                  exact x_zret C hr hlk rfl dX12_soonest_124 hWl74
                · skip
                  have nf174 := nI_nle' (a := 8) (b := wh) c172 (by omega) (by omega)
                  refine x_aload_n C dX12_soonest_81 rfl 0 rfl rfl ?_
                  refine x_iload C dX12_soonest_82 5 rfl rfl ?_
                  obtain ⟨_, k175, n176, n178, n180, v182, v183, v184, n185, n187, n189, n191, v193, v194, v195, v196, n197, n199, bn177, bn179, bn181, bn186, bn188, bn190, bn192, bn198, bn200, rfl⟩ := hWl74 0 _ rfl
                  refine x_vi C (As := [.int (nI wh)]) (rest := []) (m_isPerson E l a cd hG kf jn none jq wl74 hWl74 ((nI wh))) mf_X12_isPerson w_1270 0 k175 rfl rfl rfl (Nat.le_of_ble_eq_true rfl) ⟨(Nat.le_of_ble_eq_true rfl), (Nat.le_of_ble_eq_true rfl)⟩ ⟨(Nat.le_of_ble_eq_true rfl), (Nat.le_of_ble_eq_true rfl)⟩ dX12_soonest_84 rfl (fun r202 w203 h201 => ?_)
                  obtain ⟨hW204, zb205, x206⟩ := h201
                  refine x_ws hW204 ?_
                  refine x_if_eq C (tgt := 117) dX12_soonest_87 (by decide) rfl (fun c207 => ?_) (fun c207 => ?_)
                  · skip
                    refine x_iinc C (v := (nI (wh + 1))) (lv' := [(5, .int (nI (wh + 1))), (0, .ref (a 0)), (1, .int (nI j34)), (2, .int (nI j160)), (3, .int z74_3), (4, .int z74_4)]) dX12_soonest_117 5 rfl (nI_add wh 1) (by decide) rfl rfl ?_
                    refine x_goto C (tgt := 74) dX12_soonest_120 (by decide) ?_
                    refine x_lv (lv1 := [(0, .ref (a 0)), (1, .int (nI j34)), (2, .int (nI j160)), (3, .int z74_3), (4, .int z74_4), (5, .int (nI (wh + 1)))]) [1, 2, 3, 4, 5, 0] rfl ?_
                    exact ih74 z74_3 z74_4 (wh + 1) wl74 hWl74 (by omega) (by omega)
                  · skip
                    have wi208 := wth_le (a := 0) (b := 7) (j := wh) (x206 c207) (by omega) (by decide) (by decide)
                    refine x_aload_n C dX12_soonest_90 rfl 0 rfl rfl ?_
                    refine x_iload_n C dX12_soonest_91 rfl 1 rfl rfl ?_
                    refine x_iload C dX12_soonest_92 5 rfl rfl ?_
                    refine x_vi C (As := [.int (nI j34), .int (nI wh)]) (rest := []) (m_daysFor E l a cd hG kf jn none jq wl74 hWl74 j34 ((nI wh)) (by omega)) mf_X12_daysFor w_1650 0 k175 rfl rfl rfl (Nat.le_of_ble_eq_true rfl) ⟨(Nat.le_of_ble_eq_true rfl), (Nat.le_of_ble_eq_true rfl)⟩ ⟨(Nat.le_of_ble_eq_true rfl), (Nat.le_of_ble_eq_true rfl)⟩ dX12_soonest_94 rfl (fun r210 w211 h209 => ?_)
                    have hW212 := h209
                    refine x_iload C dX12_soonest_97 4 rfl rfl ?_
                    refine x_icmp_lt C (tgt := 105) dX12_soonest_99 (by decide) rfl (fun c213 => ?_) (fun c213 => ?_)
                    · skip
                      refine x_aload_n C dX12_soonest_105 rfl 0 rfl rfl ?_
                      refine x_iload_n C dX12_soonest_106 rfl 1 rfl rfl ?_
                      refine x_iload C dX12_soonest_107 5 rfl rfl ?_
                      obtain ⟨_, k214, n215, n217, n219, v221, v222, v223, n224, n226, n228, n230, v232, v233, v234, v235, n236, n238, bn216, bn218, bn220, bn225, bn227, bn229, bn231, bn237, bn239, rfl⟩ := hW212 0 _ rfl
                      refine x_vi C (As := [.int (nI j34), .int (nI wh)]) (rest := []) (m_daysFor E l a cd hG kf jn none jq w211 hW212 j34 ((nI wh)) (by omega)) mf_X12_daysFor w_1650 0 k214 rfl rfl rfl (Nat.le_of_ble_eq_true rfl) ⟨(Nat.le_of_ble_eq_true rfl), (Nat.le_of_ble_eq_true rfl)⟩ ⟨(Nat.le_of_ble_eq_true rfl), (Nat.le_of_ble_eq_true rfl)⟩ dX12_soonest_109 rfl (fun r241 w242 h240 => ?_)
                      have hW243 := h240
                      refine x_istore C (lv' := [(4, .int r241), (0, .ref (a 0)), (1, .int (nI j34)), (2, .int (nI j160)), (3, .int z74_3), (5, .int (nI wh))]) dX12_soonest_112 (by decide) rfl rfl ?_
                      refine x_iload C dX12_soonest_114 5 rfl rfl ?_
                      refine x_istore_n C (lv' := [(3, .int (nI wh)), (4, .int r241), (0, .ref (a 0)), (1, .int (nI j34)), (2, .int (nI j160)), (5, .int (nI wh))]) dX12_soonest_116 rfl (by decide) rfl rfl ?_
                      refine x_iinc C (v := (nI (wh + 1))) (lv' := [(5, .int (nI (wh + 1))), (3, .int (nI wh)), (4, .int r241), (0, .ref (a 0)), (1, .int (nI j34)), (2, .int (nI j160))]) dX12_soonest_117 5 rfl (nI_add wh 1) (by decide) rfl rfl ?_
                      refine x_goto C (tgt := 74) dX12_soonest_120 (by decide) ?_
                      refine x_lv (lv1 := [(0, .ref (a 0)), (1, .int (nI j34)), (2, .int (nI j160)), (3, .int (nI wh)), (4, .int r241), (5, .int (nI (wh + 1)))]) [3, 4, 5, 1, 2, 0] rfl ?_
                      exact ih74 ((nI wh)) r241 (wh + 1) w242 hW243 (by omega) (by omega)
                    · skip
                      refine x_goto C (tgt := 117) dX12_soonest_102 (by decide) ?_
                      refine x_iinc C (v := (nI (wh + 1))) (lv' := [(5, .int (nI (wh + 1))), (0, .ref (a 0)), (1, .int (nI j34)), (2, .int (nI j160)), (3, .int z74_3), (4, .int z74_4)]) dX12_soonest_117 5 rfl (nI_add wh 1) (by decide) rfl rfl ?_
                      refine x_goto C (tgt := 74) dX12_soonest_120 (by decide) ?_
                      refine x_lv (lv1 := [(0, .ref (a 0)), (1, .int (nI j34)), (2, .int (nI j160)), (3, .int z74_3), (4, .int z74_4), (5, .int (nI (wh + 1)))]) [1, 2, 3, 4, 5, 0] rfl ?_
                      exact ih74 z74_3 z74_4 (wh + 1) w211 hW212 (by omega) (by omega)
            refine x_lv (lv1 := [(0, .ref (a 0)), (1, .int (nI j34)), (2, .int (nI j160)), (3, .int (-2)), (4, .int 1000000000), (5, .int 0)]) [3, 4, 5, 2, 1, 0] rfl ?_
            exact loop74 _ ((-2) : Int32) (1000000000 : Int32) 0 ws hW (Nat.lt_succ_self _) (by omega)
          · skip
            have nf244 : ¬ j160 = 8 := fun q => c170 (congrArg nI q)
            refine x_aload_n C dX12_soonest_41 rfl 0 rfl rfl ?_
            refine x_iload_n C dX12_soonest_42 rfl 1 rfl rfl ?_
            refine x_iload_n C dX12_soonest_43 rfl 2 rfl rfl ?_
            refine x_vi C (As := [.int (nI j34), .int (nI j160)]) (rest := []) (m_daysFor E l a cd hG kf jn none jq ws hW j34 ((nI j160)) (by omega)) mf_X12_daysFor w_1650 0 k1 rfl rfl rfl (Nat.le_of_ble_eq_true rfl) ⟨(Nat.le_of_ble_eq_true rfl), (Nat.le_of_ble_eq_true rfl)⟩ ⟨(Nat.le_of_ble_eq_true rfl), (Nat.le_of_ble_eq_true rfl)⟩ dX12_soonest_44 rfl (fun r246 w247 h245 => ?_)
            have hW248 := h245
            refine x_ldc C w_1538 dX12_soonest_47 rfl ?_
            refine x_icmp_ne C (tgt := 57) dX12_soonest_49 (by decide) rfl (fun c249 => ?_) (fun c249 => ?_)
            · skip
              refine x_aload_n C dX12_soonest_57 rfl 0 rfl rfl ?_
              refine x_iload_n C dX12_soonest_58 rfl 1 rfl rfl ?_
              refine x_iload_n C dX12_soonest_59 rfl 2 rfl rfl ?_
              obtain ⟨_, k250, n251, n253, n255, v257, v258, v259, n260, n262, n264, n266, v268, v269, v270, v271, n272, n274, bn252, bn254, bn256, bn261, bn263, bn265, bn267, bn273, bn275, rfl⟩ := hW248 0 _ rfl
              refine x_vi C (As := [.int (nI j34), .int (nI j160)]) (rest := []) (m_daysFor E l a cd hG kf jn none jq w247 hW248 j34 ((nI j160)) (by omega)) mf_X12_daysFor w_1650 0 k250 rfl rfl rfl (Nat.le_of_ble_eq_true rfl) ⟨(Nat.le_of_ble_eq_true rfl), (Nat.le_of_ble_eq_true rfl)⟩ ⟨(Nat.le_of_ble_eq_true rfl), (Nat.le_of_ble_eq_true rfl)⟩ dX12_soonest_60 rfl (fun r277 w278 h276 => ?_)
              have hW279 := h276
              exact x_zret C hr hlk rfl dX12_soonest_63 hW279
            · skip
              refine x_bipush C (v := (-2)) dX12_soonest_52 (by decide) rfl ?_
              refine x_goto C (tgt := 63) dX12_soonest_54 (by decide) ?_
              exact x_zret C hr hlk rfl dX12_soonest_63 hW248
        · skip
          refine x_bipush C (v := (-3)) dX12_soonest_32 (by decide) rfl ?_
          exact x_zret C hr hlk rfl dX12_soonest_34 hW
      · skip
        refine x_iconst C (v := (-1)) dX12_soonest_22 (by decide) rfl ?_
        exact x_zret C hr hlk rfl dX12_soonest_23 hW
