section XAL
variable {E : xE} {p : Program} {l : Launch} {e : Env} {R : Room} {s : State} {m : MethodId} {args : Array Value} {below : List Frame} {meth : Method} {c : Code} {A : Nat → Prop} {cc : ByteArray} {nL : Nat} {own : String} {cells slots : Nat} {Q : State → Prop} {ws : va_W} {pc pc' : Nat} {lv : List (Nat × Value)} {st : List Value}
theorem x_alen (C : xC E p s m args c A cc nL own) {a n : Nat} {f : Nat → Int32} {v : Int32} (q0 : Nat) (he : ws[q0]? = some (iA E a n f)) (hv : Int32.ofNat n = v) (hd : decode cc pc = .ok (.arraylength, 1)) (hp : pc + 1 = pc') (kk : X E p l e R s m args below meth c A nL cells slots Q ws pc' lv (.int v :: st)) : X E p l e R s m args below meth c A nL cells slots Q ws pc lv (.ref a :: st) := by
  subst hp
  exact fun H locs ls hP hD hS hl => va_alen C.1 C.2.1 C.2.2.2.2.2.1.1 hP q0 0 he rfl hv hd (kk H locs ls hP hD hS hl)
end XAL
theorem mmin_n (x y : Nat) (hx : x < 2 ^ 31) (hy : y < 2 ^ 31) : (if nI y < nI x then nI y else nI x) = nI (if y < x then y else x) := by
  by_cases h : y < x
  · rw [if_pos h, if_pos ((nI_ltI hy hx).mpr h)]
  · rw [if_neg h, if_neg (fun q => h ((nI_ltI hy hx).mp q))]
theorem min_le2 (x y : Nat) : (if y < x then y else x) ≤ x ∧ (if y < x then y else x) ≤ y := by
  by_cases h : y < x
  · rw [if_pos h]; omega
  · rw [if_neg h]; omega
theorem dX1_wholeOf_0 : decode cX1_wholeOf 0 = .ok (.iconst 0, 1) := by decide +kernel
theorem dX1_wholeOf_1 : decode cX1_wholeOf 1 = .ok (.istore 4, 2) := by decide +kernel
theorem dX1_wholeOf_3 : decode cX1_wholeOf 3 = .ok (.iconst 0, 1) := by decide +kernel
theorem dX1_wholeOf_4 : decode cX1_wholeOf 4 = .ok (.istore 5, 2) := by decide +kernel
theorem dX1_wholeOf_6 : decode cX1_wholeOf 6 = .ok (.iload 5, 2) := by decide +kernel
theorem dX1_wholeOf_8 : decode cX1_wholeOf 8 = .ok (.aload_n 0, 1) := by decide +kernel
theorem dX1_wholeOf_9 : decode cX1_wholeOf 9 = .ok (.getfield 9, 3) := by decide +kernel
theorem dX1_wholeOf_12 : decode cX1_wholeOf 12 = .ok (.if_icmp .ge 41, 3) := by decide +kernel
theorem dX1_wholeOf_15 : decode cX1_wholeOf 15 = .ok (.iload 4, 2) := by decide +kernel
theorem dX1_wholeOf_17 : decode cX1_wholeOf 17 = .ok (.iload_n 3, 1) := by decide +kernel
theorem dX1_wholeOf_18 : decode cX1_wholeOf 18 = .ok (.if_icmp .ge 35, 3) := by decide +kernel
theorem dX1_wholeOf_21 : decode cX1_wholeOf 21 = .ok (.iload 4, 2) := by decide +kernel
theorem dX1_wholeOf_23 : decode cX1_wholeOf 23 = .ok (.aload_n 2, 1) := by decide +kernel
theorem dX1_wholeOf_24 : decode cX1_wholeOf 24 = .ok (.arraylength, 1) := by decide +kernel
theorem dX1_wholeOf_25 : decode cX1_wholeOf 25 = .ok (.if_icmp .ge 28, 3) := by decide +kernel
theorem dX1_wholeOf_28 : decode cX1_wholeOf 28 = .ok (.aload_n 0, 1) := by decide +kernel
theorem dX1_wholeOf_29 : decode cX1_wholeOf 29 = .ok (.iload 5, 2) := by decide +kernel
theorem dX1_wholeOf_31 : decode cX1_wholeOf 31 = .ok (.iload_n 1, 1) := by decide +kernel
theorem dX1_wholeOf_32 : decode cX1_wholeOf 32 = .ok (.invokevirtual 41, 3) := by decide +kernel
theorem dX1_wholeOf_35 : decode cX1_wholeOf 35 = .ok (.ifCond .eq 12, 3) := by decide +kernel
theorem dX1_wholeOf_38 : decode cX1_wholeOf 38 = .ok (.aload_n 2, 1) := by decide +kernel
theorem dX1_wholeOf_39 : decode cX1_wholeOf 39 = .ok (.iload 4, 2) := by decide +kernel
theorem dX1_wholeOf_41 : decode cX1_wholeOf 41 = .ok (.iload 5, 2) := by decide +kernel
theorem dX1_wholeOf_43 : decode cX1_wholeOf 43 = .ok (.iastore, 1) := by decide +kernel
theorem dX1_wholeOf_44 : decode cX1_wholeOf 44 = .ok (.iinc 4 1, 3) := by decide +kernel
theorem dX1_wholeOf_47 : decode cX1_wholeOf 47 = .ok (.iinc 5 1, 3) := by decide +kernel
theorem dX1_wholeOf_50 : decode cX1_wholeOf 50 = .ok (.goto (-44), 3) := by decide +kernel
theorem dX1_wholeOf_53 : decode cX1_wholeOf 53 = .ok (.iload 4, 2) := by decide +kernel
theorem dX1_wholeOf_55 : decode cX1_wholeOf 55 = .ok (.ireturn, 1) := by decide +kernel
set_option maxRecDepth 20000 in
set_option maxHeartbeats 4000000 in
theorem c_wholeOfA10 (E : xE) (l : Launch) (a : Nat → Nat) (ws : va_W) (hW : WX (okX E a) ws) (t : Nat) (ht : tb t) (p0 : Int32) : xI E l yX1_wholeOf cX1_wholeOf 6 (some .int) 3 [.ref (a (t + 9)), .int p0, .ref (a 93), .int 10] ws (fun r w => WX (okX E a) w ∧ keeps ws w (fun q => q = 93) ∧ (∃ rn : Nat, rn ≤ 10 ∧ r = nI rn)) := by
  refine xI_start (lv := [(0, .ref (a (t + 9))), (1, .int p0), (2, .ref (a 93)), (3, .int 10)]) RX1 (by decide) rfl (Nat.le_of_ble_eq_true rfl) rfl (fun p e s m below meth c A C hr hlk => ?_)
  have htb := tb_lo ht
  have kp0 : keeps ws ws (fun q => q = 93) := keeps_rf
  refine x_iconst C (v := 0) dX1_wholeOf_0 (by decide) rfl ?_
  refine x_istore C (lv' := [(4, .int 0), (0, .ref (a (t + 9))), (1, .int p0), (2, .ref (a 93)), (3, .int 10)]) dX1_wholeOf_1 (by decide) rfl rfl ?_
  refine x_iconst C (v := 0) dX1_wholeOf_3 (by decide) rfl ?_
  refine x_istore C (lv' := [(5, .int 0), (4, .int 0), (0, .ref (a (t + 9))), (1, .int p0), (2, .ref (a 93)), (3, .int 10)]) dX1_wholeOf_4 (by decide) rfl rfl ?_
  have loop6 : ∀ (fu6 : Nat) (fo : Nat) (i : Nat) (wl6 : va_W), WX (okX E a) wl6 → 48 - i < fu6 → fo ≤ 10 → i ≤ 48 → keeps ws wl6 (fun q => q = 93) → X E p l e (xRm 3 0 0) s m ([.ref (a (t + 9)), .int p0, .ref (a 93), .int 10] : List Value).toArray below meth c A 6 0 0 (MQ below (va_Qi (fun r w => WX (okX E a) w ∧ keeps ws w (fun q => q = 93) ∧ (∃ rn : Nat, rn ≤ 10 ∧ r = nI rn)) (xB E A) A) ([.ref (a (t + 9)), .int p0, .ref (a 93), .int 10] : List Value).toArray s 0 0 A) wl6 6 [(0, .ref (a (t + 9))), (1, .int p0), (2, .ref (a 93)), (3, .int 10), (4, .int (nI fo)), (5, .int (nI i))] [] := by
    intro fu6
    induction fu6 with
    | zero => intro fo i wl6 _ q; omega
    | succ fu6 ih6 =>
      intro fo i wl6 hWl6 me6 iv6_0 iv6_1 kq6
      refine x_iload C dX1_wholeOf_6 5 rfl rfl ?_
      refine x_aload_n C dX1_wholeOf_8 rfl 0 rfl rfl ?_
      obtain ⟨_, k1, n2, bn3, rfl⟩ := hWl6 (t + 9) _ (okX_t ht (j := 9) rfl)
      refine x_get C (ci := 1) (k := 0) (t + 9) k1 rfl in_X1 (by decide) w_120 rfl dX1_wholeOf_9 rfl ?_
      refine x_icmp_ge C (tgt := 53) dX1_wholeOf_12 (by decide) rfl (fun c4 => ?_) (fun c4 => ?_)
      · skip
        have nf5 := nI_le' (a := n2) (b := i) c4 (by omega) (by omega)
        refine x_iload C dX1_wholeOf_53 4 rfl rfl ?_
        exact x_zret C hr hlk rfl dX1_wholeOf_55 ⟨hWl6, kq6, ⟨fo, by omega, rfl⟩⟩
      · skip
        have nf6 := nI_nle' (a := n2) (b := i) c4 (by omega) (by omega)
        refine x_iload C dX1_wholeOf_15 4 rfl rfl ?_
        refine x_iload_n C dX1_wholeOf_17 rfl 3 rfl rfl ?_
        refine x_icmp_ge C (tgt := 53) dX1_wholeOf_18 (by decide) rfl (fun c7 => ?_) (fun c7 => ?_)
        · skip
          have nf8 := nI_le' (a := 10) (b := fo) c7 (by omega) (by omega)
          refine x_iload C dX1_wholeOf_53 4 rfl rfl ?_
          exact x_zret C hr hlk rfl dX1_wholeOf_55 ⟨hWl6, kq6, ⟨fo, by omega, rfl⟩⟩
        · skip
          have nf9 := nI_nle' (a := 10) (b := fo) c7 (by omega) (by omega)
          refine x_iload C dX1_wholeOf_21 4 rfl rfl ?_
          refine x_aload_n C dX1_wholeOf_23 rfl 2 rfl rfl ?_
          obtain ⟨_, k10, g11, gb12, rfl⟩ := hWl6 93 _ rfl
          refine x_alen C (v := 10) 93 k10 (by decide) dX1_wholeOf_24 rfl ?_
          refine x_icmp_ge C (tgt := 53) dX1_wholeOf_25 (by decide) rfl (fun c13 => ?_) (fun c13 => ?_)
          · skip
            have nf14 := nI_le' (a := 10) (b := fo) c13 (by omega) (by omega)
            refine x_iload C dX1_wholeOf_53 4 rfl rfl ?_
            exact x_zret C hr hlk rfl dX1_wholeOf_55 ⟨hWl6, kq6, ⟨fo, by omega, rfl⟩⟩
          · skip
            have nf15 := nI_nle' (a := 10) (b := fo) c13 (by omega) (by omega)
            refine x_aload_n C dX1_wholeOf_28 rfl 0 rfl rfl ?_
            refine x_iload C dX1_wholeOf_29 5 rfl rfl ?_
            refine x_iload_n C dX1_wholeOf_31 rfl 1 rfl rfl ?_
            refine x_vi C (As := [.int (nI i), .int p0]) (rest := []) (c_Eggs_isWholeOf E l a wl6 hWl6 t ht ((nI i)) p0) mf_X1_isWholeOf w_875 (t + 9) k1 rfl rfl rfl (Nat.le_of_ble_eq_true rfl) ⟨(Nat.le_of_ble_eq_true rfl), (Nat.le_of_ble_eq_true rfl)⟩ ⟨(Nat.le_of_ble_eq_true rfl), (Nat.le_of_ble_eq_true rfl)⟩ dX1_wholeOf_32 rfl (fun r17 w18 h16 => ?_)
            obtain ⟨hW19, zb20, x21⟩ := h16
            refine x_ws hW19 ?_
            refine x_if_eq C (tgt := 47) dX1_wholeOf_35 (by decide) rfl (fun c22 => ?_) (fun c22 => ?_)
            · skip
              refine x_iinc C (v := (nI (i + 1))) (lv' := [(5, .int (nI (i + 1))), (0, .ref (a (t + 9))), (1, .int p0), (2, .ref (a 93)), (3, .int 10), (4, .int (nI fo))]) dX1_wholeOf_47 5 rfl (nI_add i 1) (by decide) rfl rfl ?_
              refine x_goto C (tgt := 6) dX1_wholeOf_50 (by decide) ?_
              refine x_lv (lv1 := [(0, .ref (a (t + 9))), (1, .int p0), (2, .ref (a 93)), (3, .int 10), (4, .int (nI fo)), (5, .int (nI (i + 1)))]) [1, 2, 3, 4, 5, 0] rfl ?_
              exact ih6 fo (i + 1) wl6 hWl6 (by omega) (by omega) (by omega) kq6
            · skip
              have wi23 := wth_le (a := 0) (b := 47) (j := i) (x21 c22) (by omega) (by decide) (by decide)
              refine x_aload_n C dX1_wholeOf_38 rfl 2 rfl rfl ?_
              refine x_iload C dX1_wholeOf_39 4 rfl rfl ?_
              refine x_iload C dX1_wholeOf_41 5 rfl rfl ?_
              have gb24 := updn_le (i := fo) (v := i) gb12 (by omega)
              obtain ⟨w25, hw26⟩ : ∃ w : va_W, w = List.set wl6 93 (iA E (a 93) 10 (upd (fun j => nI (g11 j)) fo (nI i))) := ⟨_, rfl⟩
              refine x_iask C fo (nI_clamp (by omega)) (nI_pos (by omega)) (by omega) 93 k10 hw26.symm dX1_wholeOf_43 rfl ?_
              have hW27 : WX (okX E a) w25 := by rw [hw26]; exact hWl6.set (k := 93) rfl ⟨_, gb24, iA_n (upd_nI g11 fo i)⟩
              have k28 : w25[t + 9]? = some (ob (a (t + 9)) 1 [.int (nI n2), .ref (a (t + 10)), .ref (a (t + 11)), .ref (a (t + 12)), .ref (a (t + 13)), .ref (a (t + 14)), .ref (a (t + 15))]) := by rw [hw26]; exact set_ne k1 (by omega)
              have k29 : w25[93]? = some (iA E (a 93) 10 (upd (fun j => nI (g11 j)) fo (nI i))) := by rw [hw26]; exact set_eq k10
              have kp30 := keeps_set kq6 hw26 (by first | exact rfl | decide | omega | (dsimp only; omega))
              have k31 : w25[93]? = some (iA E (a 93) 10 (fun j => nI ((updn g11 fo i) j))) := by rw [← upd_nI]; exact k29
              refine x_iinc C (v := (nI (fo + 1))) (lv' := [(4, .int (nI (fo + 1))), (0, .ref (a (t + 9))), (1, .int p0), (2, .ref (a 93)), (3, .int 10), (5, .int (nI i))]) dX1_wholeOf_44 4 rfl (nI_add fo 1) (by decide) rfl rfl ?_
              refine x_iinc C (v := (nI (i + 1))) (lv' := [(5, .int (nI (i + 1))), (4, .int (nI (fo + 1))), (0, .ref (a (t + 9))), (1, .int p0), (2, .ref (a 93)), (3, .int 10)]) dX1_wholeOf_47 5 rfl (nI_add i 1) (by decide) rfl rfl ?_
              refine x_goto C (tgt := 6) dX1_wholeOf_50 (by decide) ?_
              refine x_lv (lv1 := [(0, .ref (a (t + 9))), (1, .int p0), (2, .ref (a 93)), (3, .int 10), (4, .int (nI (fo + 1))), (5, .int (nI (i + 1)))]) [2, 3, 4, 5, 1, 0] rfl ?_
              exact ih6 (fo + 1) (i + 1) w25 hW27 (by omega) (by omega) (by omega) kp30
  refine x_lv (lv1 := [(0, .ref (a (t + 9))), (1, .int p0), (2, .ref (a 93)), (3, .int 10), (4, .int 0), (5, .int 0)]) [2, 3, 4, 5, 1, 0] rfl ?_
  exact loop6 _ 0 0 ws hW (Nat.lt_succ_self _) (by omega) (by omega) kp0
set_option maxRecDepth 20000 in
set_option maxHeartbeats 4000000 in
theorem c_wholeOfB48 (E : xE) (l : Launch) (a : Nat → Nat) (ws : va_W) (hW : WX (okX E a) ws) (t : Nat) (ht : tb t) (p0 : Int32) : xI E l yX1_wholeOf cX1_wholeOf 6 (some .int) 3 [.ref (a (t + 9)), .int p0, .ref (a 105), .int 48] ws (fun r w => WX (okX E a) w ∧ keeps ws w (fun q => q = 105) ∧ (∃ rn : Nat, rn ≤ 48 ∧ r = nI rn)) := by
  refine xI_start (lv := [(0, .ref (a (t + 9))), (1, .int p0), (2, .ref (a 105)), (3, .int 48)]) RX1 (by decide) rfl (Nat.le_of_ble_eq_true rfl) rfl (fun p e s m below meth c A C hr hlk => ?_)
  have htb := tb_lo ht
  have kp0 : keeps ws ws (fun q => q = 105) := keeps_rf
  refine x_iconst C (v := 0) dX1_wholeOf_0 (by decide) rfl ?_
  refine x_istore C (lv' := [(4, .int 0), (0, .ref (a (t + 9))), (1, .int p0), (2, .ref (a 105)), (3, .int 48)]) dX1_wholeOf_1 (by decide) rfl rfl ?_
  refine x_iconst C (v := 0) dX1_wholeOf_3 (by decide) rfl ?_
  refine x_istore C (lv' := [(5, .int 0), (4, .int 0), (0, .ref (a (t + 9))), (1, .int p0), (2, .ref (a 105)), (3, .int 48)]) dX1_wholeOf_4 (by decide) rfl rfl ?_
  have loop6 : ∀ (fu6 : Nat) (fo : Nat) (i : Nat) (wl6 : va_W), WX (okX E a) wl6 → 48 - i < fu6 → fo ≤ 48 → i ≤ 48 → keeps ws wl6 (fun q => q = 105) → X E p l e (xRm 3 0 0) s m ([.ref (a (t + 9)), .int p0, .ref (a 105), .int 48] : List Value).toArray below meth c A 6 0 0 (MQ below (va_Qi (fun r w => WX (okX E a) w ∧ keeps ws w (fun q => q = 105) ∧ (∃ rn : Nat, rn ≤ 48 ∧ r = nI rn)) (xB E A) A) ([.ref (a (t + 9)), .int p0, .ref (a 105), .int 48] : List Value).toArray s 0 0 A) wl6 6 [(0, .ref (a (t + 9))), (1, .int p0), (2, .ref (a 105)), (3, .int 48), (4, .int (nI fo)), (5, .int (nI i))] [] := by
    intro fu6
    induction fu6 with
    | zero => intro fo i wl6 _ q; omega
    | succ fu6 ih6 =>
      intro fo i wl6 hWl6 me6 iv6_0 iv6_1 kq6
      refine x_iload C dX1_wholeOf_6 5 rfl rfl ?_
      refine x_aload_n C dX1_wholeOf_8 rfl 0 rfl rfl ?_
      obtain ⟨_, k1, n2, bn3, rfl⟩ := hWl6 (t + 9) _ (okX_t ht (j := 9) rfl)
      refine x_get C (ci := 1) (k := 0) (t + 9) k1 rfl in_X1 (by decide) w_120 rfl dX1_wholeOf_9 rfl ?_
      refine x_icmp_ge C (tgt := 53) dX1_wholeOf_12 (by decide) rfl (fun c4 => ?_) (fun c4 => ?_)
      · skip
        have nf5 := nI_le' (a := n2) (b := i) c4 (by omega) (by omega)
        refine x_iload C dX1_wholeOf_53 4 rfl rfl ?_
        exact x_zret C hr hlk rfl dX1_wholeOf_55 ⟨hWl6, kq6, ⟨fo, by omega, rfl⟩⟩
      · skip
        have nf6 := nI_nle' (a := n2) (b := i) c4 (by omega) (by omega)
        refine x_iload C dX1_wholeOf_15 4 rfl rfl ?_
        refine x_iload_n C dX1_wholeOf_17 rfl 3 rfl rfl ?_
        refine x_icmp_ge C (tgt := 53) dX1_wholeOf_18 (by decide) rfl (fun c7 => ?_) (fun c7 => ?_)
        · skip
          have nf8 := nI_le' (a := 48) (b := fo) c7 (by omega) (by omega)
          refine x_iload C dX1_wholeOf_53 4 rfl rfl ?_
          exact x_zret C hr hlk rfl dX1_wholeOf_55 ⟨hWl6, kq6, ⟨fo, by omega, rfl⟩⟩
        · skip
          have nf9 := nI_nle' (a := 48) (b := fo) c7 (by omega) (by omega)
          refine x_iload C dX1_wholeOf_21 4 rfl rfl ?_
          refine x_aload_n C dX1_wholeOf_23 rfl 2 rfl rfl ?_
          obtain ⟨_, k10, f11, rfl⟩ := hWl6 105 _ rfl
          refine x_alen C (v := 48) 105 k10 (by decide) dX1_wholeOf_24 rfl ?_
          refine x_icmp_ge C (tgt := 53) dX1_wholeOf_25 (by decide) rfl (fun c12 => ?_) (fun c12 => ?_)
          · skip
            have nf13 := nI_le' (a := 48) (b := fo) c12 (by omega) (by omega)
            refine x_iload C dX1_wholeOf_53 4 rfl rfl ?_
            exact x_zret C hr hlk rfl dX1_wholeOf_55 ⟨hWl6, kq6, ⟨fo, by omega, rfl⟩⟩
          · skip
            have nf14 := nI_nle' (a := 48) (b := fo) c12 (by omega) (by omega)
            refine x_aload_n C dX1_wholeOf_28 rfl 0 rfl rfl ?_
            refine x_iload C dX1_wholeOf_29 5 rfl rfl ?_
            refine x_iload_n C dX1_wholeOf_31 rfl 1 rfl rfl ?_
            refine x_vi C (As := [.int (nI i), .int p0]) (rest := []) (c_Eggs_isWholeOf E l a wl6 hWl6 t ht ((nI i)) p0) mf_X1_isWholeOf w_875 (t + 9) k1 rfl rfl rfl (Nat.le_of_ble_eq_true rfl) ⟨(Nat.le_of_ble_eq_true rfl), (Nat.le_of_ble_eq_true rfl)⟩ ⟨(Nat.le_of_ble_eq_true rfl), (Nat.le_of_ble_eq_true rfl)⟩ dX1_wholeOf_32 rfl (fun r16 w17 h15 => ?_)
            obtain ⟨hW18, zb19, x20⟩ := h15
            refine x_ws hW18 ?_
            refine x_if_eq C (tgt := 47) dX1_wholeOf_35 (by decide) rfl (fun c21 => ?_) (fun c21 => ?_)
            · skip
              refine x_iinc C (v := (nI (i + 1))) (lv' := [(5, .int (nI (i + 1))), (0, .ref (a (t + 9))), (1, .int p0), (2, .ref (a 105)), (3, .int 48), (4, .int (nI fo))]) dX1_wholeOf_47 5 rfl (nI_add i 1) (by decide) rfl rfl ?_
              refine x_goto C (tgt := 6) dX1_wholeOf_50 (by decide) ?_
              refine x_lv (lv1 := [(0, .ref (a (t + 9))), (1, .int p0), (2, .ref (a 105)), (3, .int 48), (4, .int (nI fo)), (5, .int (nI (i + 1)))]) [1, 2, 3, 4, 5, 0] rfl ?_
              exact ih6 fo (i + 1) wl6 hWl6 (by omega) (by omega) (by omega) kq6
            · skip
              have wi22 := wth_le (a := 0) (b := 47) (j := i) (x20 c21) (by omega) (by decide) (by decide)
              refine x_aload_n C dX1_wholeOf_38 rfl 2 rfl rfl ?_
              refine x_iload C dX1_wholeOf_39 4 rfl rfl ?_
              refine x_iload C dX1_wholeOf_41 5 rfl rfl ?_
              obtain ⟨w23, hw24⟩ : ∃ w : va_W, w = List.set wl6 105 (iA E (a 105) 48 (upd f11 (nI fo).toNatClampNeg (nI i))) := ⟨_, rfl⟩
              refine x_iast C 105 k10 (vp_in_nI (by omega) (by decide)) hw24.symm dX1_wholeOf_43 rfl ?_
              have hW25 : WX (okX E a) w23 := by rw [hw24]; exact hWl6.set (k := 105) rfl ⟨_, rfl⟩
              have k26 : w23[t + 9]? = some (ob (a (t + 9)) 1 [.int (nI n2), .ref (a (t + 10)), .ref (a (t + 11)), .ref (a (t + 12)), .ref (a (t + 13)), .ref (a (t + 14)), .ref (a (t + 15))]) := by rw [hw24]; exact set_ne k1 (by omega)
              have k27 : w23[105]? = some (iA E (a 105) 48 (upd f11 (nI fo).toNatClampNeg (nI i))) := by rw [hw24]; exact set_eq k10
              have kp28 := keeps_set kq6 hw24 (by first | exact rfl | decide | omega | (dsimp only; omega))
              refine x_iinc C (v := (nI (fo + 1))) (lv' := [(4, .int (nI (fo + 1))), (0, .ref (a (t + 9))), (1, .int p0), (2, .ref (a 105)), (3, .int 48), (5, .int (nI i))]) dX1_wholeOf_44 4 rfl (nI_add fo 1) (by decide) rfl rfl ?_
              refine x_iinc C (v := (nI (i + 1))) (lv' := [(5, .int (nI (i + 1))), (4, .int (nI (fo + 1))), (0, .ref (a (t + 9))), (1, .int p0), (2, .ref (a 105)), (3, .int 48)]) dX1_wholeOf_47 5 rfl (nI_add i 1) (by decide) rfl rfl ?_
              refine x_goto C (tgt := 6) dX1_wholeOf_50 (by decide) ?_
              refine x_lv (lv1 := [(0, .ref (a (t + 9))), (1, .int p0), (2, .ref (a 105)), (3, .int 48), (4, .int (nI (fo + 1))), (5, .int (nI (i + 1)))]) [2, 3, 4, 5, 1, 0] rfl ?_
              exact ih6 (fo + 1) (i + 1) w23 hW25 (by omega) (by omega) (by omega) kp28
  refine x_lv (lv1 := [(0, .ref (a (t + 9))), (1, .int p0), (2, .ref (a 105)), (3, .int 48), (4, .int 0), (5, .int 0)]) [2, 3, 4, 5, 1, 0] rfl ?_
  exact loop6 _ 0 0 ws hW (Nat.lt_succ_self _) (by omega) (by omega) kp0
set_option maxRecDepth 20000 in
set_option maxHeartbeats 4000000 in
theorem c_wholeOfB12 (E : xE) (l : Launch) (a : Nat → Nat) (ws : va_W) (hW : WX (okX E a) ws) (t : Nat) (ht : tb t) (p0 : Int32) : xI E l yX1_wholeOf cX1_wholeOf 6 (some .int) 3 [.ref (a (t + 9)), .int p0, .ref (a 105), .int 12] ws (fun r w => WX (okX E a) w ∧ keeps ws w (fun q => q = 105) ∧ (∃ rn : Nat, rn ≤ 12 ∧ r = nI rn)) := by
  refine xI_start (lv := [(0, .ref (a (t + 9))), (1, .int p0), (2, .ref (a 105)), (3, .int 12)]) RX1 (by decide) rfl (Nat.le_of_ble_eq_true rfl) rfl (fun p e s m below meth c A C hr hlk => ?_)
  have htb := tb_lo ht
  have kp0 : keeps ws ws (fun q => q = 105) := keeps_rf
  refine x_iconst C (v := 0) dX1_wholeOf_0 (by decide) rfl ?_
  refine x_istore C (lv' := [(4, .int 0), (0, .ref (a (t + 9))), (1, .int p0), (2, .ref (a 105)), (3, .int 12)]) dX1_wholeOf_1 (by decide) rfl rfl ?_
  refine x_iconst C (v := 0) dX1_wholeOf_3 (by decide) rfl ?_
  refine x_istore C (lv' := [(5, .int 0), (4, .int 0), (0, .ref (a (t + 9))), (1, .int p0), (2, .ref (a 105)), (3, .int 12)]) dX1_wholeOf_4 (by decide) rfl rfl ?_
  have loop6 : ∀ (fu6 : Nat) (fo : Nat) (i : Nat) (wl6 : va_W), WX (okX E a) wl6 → 48 - i < fu6 → fo ≤ 12 → i ≤ 48 → keeps ws wl6 (fun q => q = 105) → X E p l e (xRm 3 0 0) s m ([.ref (a (t + 9)), .int p0, .ref (a 105), .int 12] : List Value).toArray below meth c A 6 0 0 (MQ below (va_Qi (fun r w => WX (okX E a) w ∧ keeps ws w (fun q => q = 105) ∧ (∃ rn : Nat, rn ≤ 12 ∧ r = nI rn)) (xB E A) A) ([.ref (a (t + 9)), .int p0, .ref (a 105), .int 12] : List Value).toArray s 0 0 A) wl6 6 [(0, .ref (a (t + 9))), (1, .int p0), (2, .ref (a 105)), (3, .int 12), (4, .int (nI fo)), (5, .int (nI i))] [] := by
    intro fu6
    induction fu6 with
    | zero => intro fo i wl6 _ q; omega
    | succ fu6 ih6 =>
      intro fo i wl6 hWl6 me6 iv6_0 iv6_1 kq6
      refine x_iload C dX1_wholeOf_6 5 rfl rfl ?_
      refine x_aload_n C dX1_wholeOf_8 rfl 0 rfl rfl ?_
      obtain ⟨_, k1, n2, bn3, rfl⟩ := hWl6 (t + 9) _ (okX_t ht (j := 9) rfl)
      refine x_get C (ci := 1) (k := 0) (t + 9) k1 rfl in_X1 (by decide) w_120 rfl dX1_wholeOf_9 rfl ?_
      refine x_icmp_ge C (tgt := 53) dX1_wholeOf_12 (by decide) rfl (fun c4 => ?_) (fun c4 => ?_)
      · skip
        have nf5 := nI_le' (a := n2) (b := i) c4 (by omega) (by omega)
        refine x_iload C dX1_wholeOf_53 4 rfl rfl ?_
        exact x_zret C hr hlk rfl dX1_wholeOf_55 ⟨hWl6, kq6, ⟨fo, by omega, rfl⟩⟩
      · skip
        have nf6 := nI_nle' (a := n2) (b := i) c4 (by omega) (by omega)
        refine x_iload C dX1_wholeOf_15 4 rfl rfl ?_
        refine x_iload_n C dX1_wholeOf_17 rfl 3 rfl rfl ?_
        refine x_icmp_ge C (tgt := 53) dX1_wholeOf_18 (by decide) rfl (fun c7 => ?_) (fun c7 => ?_)
        · skip
          have nf8 := nI_le' (a := 12) (b := fo) c7 (by omega) (by omega)
          refine x_iload C dX1_wholeOf_53 4 rfl rfl ?_
          exact x_zret C hr hlk rfl dX1_wholeOf_55 ⟨hWl6, kq6, ⟨fo, by omega, rfl⟩⟩
        · skip
          have nf9 := nI_nle' (a := 12) (b := fo) c7 (by omega) (by omega)
          refine x_iload C dX1_wholeOf_21 4 rfl rfl ?_
          refine x_aload_n C dX1_wholeOf_23 rfl 2 rfl rfl ?_
          obtain ⟨_, k10, f11, rfl⟩ := hWl6 105 _ rfl
          refine x_alen C (v := 48) 105 k10 (by decide) dX1_wholeOf_24 rfl ?_
          refine x_icmp_ge C (tgt := 53) dX1_wholeOf_25 (by decide) rfl (fun c12 => ?_) (fun c12 => ?_)
          · skip
            have nf13 := nI_le' (a := 48) (b := fo) c12 (by omega) (by omega)
            refine x_iload C dX1_wholeOf_53 4 rfl rfl ?_
            exact x_zret C hr hlk rfl dX1_wholeOf_55 ⟨hWl6, kq6, ⟨fo, by omega, rfl⟩⟩
          · skip
            have nf14 := nI_nle' (a := 48) (b := fo) c12 (by omega) (by omega)
            refine x_aload_n C dX1_wholeOf_28 rfl 0 rfl rfl ?_
            refine x_iload C dX1_wholeOf_29 5 rfl rfl ?_
            refine x_iload_n C dX1_wholeOf_31 rfl 1 rfl rfl ?_
            refine x_vi C (As := [.int (nI i), .int p0]) (rest := []) (c_Eggs_isWholeOf E l a wl6 hWl6 t ht ((nI i)) p0) mf_X1_isWholeOf w_875 (t + 9) k1 rfl rfl rfl (Nat.le_of_ble_eq_true rfl) ⟨(Nat.le_of_ble_eq_true rfl), (Nat.le_of_ble_eq_true rfl)⟩ ⟨(Nat.le_of_ble_eq_true rfl), (Nat.le_of_ble_eq_true rfl)⟩ dX1_wholeOf_32 rfl (fun r16 w17 h15 => ?_)
            obtain ⟨hW18, zb19, x20⟩ := h15
            refine x_ws hW18 ?_
            refine x_if_eq C (tgt := 47) dX1_wholeOf_35 (by decide) rfl (fun c21 => ?_) (fun c21 => ?_)
            · skip
              refine x_iinc C (v := (nI (i + 1))) (lv' := [(5, .int (nI (i + 1))), (0, .ref (a (t + 9))), (1, .int p0), (2, .ref (a 105)), (3, .int 12), (4, .int (nI fo))]) dX1_wholeOf_47 5 rfl (nI_add i 1) (by decide) rfl rfl ?_
              refine x_goto C (tgt := 6) dX1_wholeOf_50 (by decide) ?_
              refine x_lv (lv1 := [(0, .ref (a (t + 9))), (1, .int p0), (2, .ref (a 105)), (3, .int 12), (4, .int (nI fo)), (5, .int (nI (i + 1)))]) [1, 2, 3, 4, 5, 0] rfl ?_
              exact ih6 fo (i + 1) wl6 hWl6 (by omega) (by omega) (by omega) kq6
            · skip
              have wi22 := wth_le (a := 0) (b := 47) (j := i) (x20 c21) (by omega) (by decide) (by decide)
              refine x_aload_n C dX1_wholeOf_38 rfl 2 rfl rfl ?_
              refine x_iload C dX1_wholeOf_39 4 rfl rfl ?_
              refine x_iload C dX1_wholeOf_41 5 rfl rfl ?_
              obtain ⟨w23, hw24⟩ : ∃ w : va_W, w = List.set wl6 105 (iA E (a 105) 48 (upd f11 (nI fo).toNatClampNeg (nI i))) := ⟨_, rfl⟩
              refine x_iast C 105 k10 (vp_in_nI (by omega) (by decide)) hw24.symm dX1_wholeOf_43 rfl ?_
              have hW25 : WX (okX E a) w23 := by rw [hw24]; exact hWl6.set (k := 105) rfl ⟨_, rfl⟩
              have k26 : w23[t + 9]? = some (ob (a (t + 9)) 1 [.int (nI n2), .ref (a (t + 10)), .ref (a (t + 11)), .ref (a (t + 12)), .ref (a (t + 13)), .ref (a (t + 14)), .ref (a (t + 15))]) := by rw [hw24]; exact set_ne k1 (by omega)
              have k27 : w23[105]? = some (iA E (a 105) 48 (upd f11 (nI fo).toNatClampNeg (nI i))) := by rw [hw24]; exact set_eq k10
              have kp28 := keeps_set kq6 hw24 (by first | exact rfl | decide | omega | (dsimp only; omega))
              refine x_iinc C (v := (nI (fo + 1))) (lv' := [(4, .int (nI (fo + 1))), (0, .ref (a (t + 9))), (1, .int p0), (2, .ref (a 105)), (3, .int 12), (5, .int (nI i))]) dX1_wholeOf_44 4 rfl (nI_add fo 1) (by decide) rfl rfl ?_
              refine x_iinc C (v := (nI (i + 1))) (lv' := [(5, .int (nI (i + 1))), (4, .int (nI (fo + 1))), (0, .ref (a (t + 9))), (1, .int p0), (2, .ref (a 105)), (3, .int 12)]) dX1_wholeOf_47 5 rfl (nI_add i 1) (by decide) rfl rfl ?_
              refine x_goto C (tgt := 6) dX1_wholeOf_50 (by decide) ?_
              refine x_lv (lv1 := [(0, .ref (a (t + 9))), (1, .int p0), (2, .ref (a 105)), (3, .int 12), (4, .int (nI (fo + 1))), (5, .int (nI (i + 1)))]) [2, 3, 4, 5, 1, 0] rfl ?_
              exact ih6 (fo + 1) (i + 1) w23 hW25 (by omega) (by omega) (by omega) kp28
  refine x_lv (lv1 := [(0, .ref (a (t + 9))), (1, .int p0), (2, .ref (a 105)), (3, .int 12), (4, .int 0), (5, .int 0)]) [2, 3, 4, 5, 1, 0] rfl ?_
  exact loop6 _ 0 0 ws hW (Nat.lt_succ_self _) (by omega) (by omega) kp0
theorem dX7_fill_0 : decode cX7_fill 0 = .ok (.iconst 0, 1) := by decide +kernel
theorem dX7_fill_1 : decode cX7_fill 1 = .ok (.istore 4, 2) := by decide +kernel
theorem dX7_fill_3 : decode cX7_fill 3 = .ok (.aload_n 0, 1) := by decide +kernel
theorem dX7_fill_4 : decode cX7_fill 4 = .ok (.iload_n 3, 1) := by decide +kernel
theorem dX7_fill_5 : decode cX7_fill 5 = .ok (.aload_n 2, 1) := by decide +kernel
theorem dX7_fill_6 : decode cX7_fill 6 = .ok (.arraylength, 1) := by decide +kernel
theorem dX7_fill_7 : decode cX7_fill 7 = .ok (.bipush 12, 2) := by decide +kernel
theorem dX7_fill_9 : decode cX7_fill 9 = .ok (.invokestatic 28, 3) := by decide +kernel
theorem dX7_fill_12 : decode cX7_fill 12 = .ok (.invokestatic 28, 3) := by decide +kernel
theorem dX7_fill_15 : decode cX7_fill 15 = .ok (.putfield 25, 3) := by decide +kernel
theorem dX7_fill_18 : decode cX7_fill 18 = .ok (.iconst 0, 1) := by decide +kernel
theorem dX7_fill_19 : decode cX7_fill 19 = .ok (.istore 5, 2) := by decide +kernel
theorem dX7_fill_21 : decode cX7_fill 21 = .ok (.iload 5, 2) := by decide +kernel
theorem dX7_fill_23 : decode cX7_fill 23 = .ok (.aload_n 0, 1) := by decide +kernel
theorem dX7_fill_24 : decode cX7_fill 24 = .ok (.getfield 25, 3) := by decide +kernel
theorem dX7_fill_27 : decode cX7_fill 27 = .ok (.if_icmp .ge 36, 3) := by decide +kernel
theorem dX7_fill_30 : decode cX7_fill 30 = .ok (.aload_n 0, 1) := by decide +kernel
theorem dX7_fill_31 : decode cX7_fill 31 = .ok (.getfield 21, 3) := by decide +kernel
theorem dX7_fill_34 : decode cX7_fill 34 = .ok (.iload 5, 2) := by decide +kernel
theorem dX7_fill_36 : decode cX7_fill 36 = .ok (.aload_n 1, 1) := by decide +kernel
theorem dX7_fill_37 : decode cX7_fill 37 = .ok (.aload_n 2, 1) := by decide +kernel
theorem dX7_fill_38 : decode cX7_fill 38 = .ok (.iload 5, 2) := by decide +kernel
theorem dX7_fill_40 : decode cX7_fill 40 = .ok (.iaload, 1) := by decide +kernel
theorem dX7_fill_41 : decode cX7_fill 41 = .ok (.invokevirtual 34, 3) := by decide +kernel
theorem dX7_fill_44 : decode cX7_fill 44 = .ok (.iastore, 1) := by decide +kernel
theorem dX7_fill_45 : decode cX7_fill 45 = .ok (.iload 4, 2) := by decide +kernel
theorem dX7_fill_47 : decode cX7_fill 47 = .ok (.aload_n 0, 1) := by decide +kernel
theorem dX7_fill_48 : decode cX7_fill 48 = .ok (.getfield 21, 3) := by decide +kernel
theorem dX7_fill_51 : decode cX7_fill 51 = .ok (.iload 5, 2) := by decide +kernel
theorem dX7_fill_53 : decode cX7_fill 53 = .ok (.iaload, 1) := by decide +kernel
theorem dX7_fill_54 : decode cX7_fill 54 = .ok (.iadd, 1) := by decide +kernel
theorem dX7_fill_55 : decode cX7_fill 55 = .ok (.istore 4, 2) := by decide +kernel
theorem dX7_fill_57 : decode cX7_fill 57 = .ok (.iinc 5 1, 3) := by decide +kernel
theorem dX7_fill_60 : decode cX7_fill 60 = .ok (.goto (-39), 3) := by decide +kernel
theorem dX7_fill_63 : decode cX7_fill 63 = .ok (.iload 4, 2) := by decide +kernel
theorem dX7_fill_65 : decode cX7_fill 65 = .ok (.ireturn, 1) := by decide +kernel
set_option maxRecDepth 20000 in
set_option maxHeartbeats 4000000 in
theorem c_fill (E : xE) (l : Launch) (a : Nat → Nat) (ws : va_W) (hW : WX (okX E a) ws) (n0 : Nat) (hn0 : n0 ≤ 48) : xI E l yX7_fill cX7_fill 6 (some .int) 2 [.ref (a 103), .ref (a 14), .ref (a 105), .int (nI n0)] ws (fun r w => WX (okX E a) w ∧ keeps ws w (fun q => 103 ≤ q ∧ q < 105)) := by
  refine xI_start (lv := [(0, .ref (a 103)), (1, .ref (a 14)), (2, .ref (a 105)), (3, .int (nI n0))]) RX7 (by decide) rfl (Nat.le_of_ble_eq_true rfl) rfl (fun p e s m below meth c A C hr hlk => ?_)
  have kp0 : keeps ws ws (fun q => 103 ≤ q ∧ q < 105) := keeps_rf
  refine x_iconst C (v := 0) dX7_fill_0 (by decide) rfl ?_
  refine x_istore C (lv' := [(4, .int 0), (0, .ref (a 103)), (1, .ref (a 14)), (2, .ref (a 105)), (3, .int (nI n0))]) dX7_fill_1 (by decide) rfl rfl ?_
  refine x_aload_n C dX7_fill_3 rfl 1 rfl rfl ?_
  refine x_iload_n C dX7_fill_4 rfl 4 rfl rfl ?_
  refine x_aload_n C dX7_fill_5 rfl 3 rfl rfl ?_
  obtain ⟨_, k1, f2, rfl⟩ := hW 105 _ rfl
  refine x_alen C (v := 48) 105 k1 (by decide) dX7_fill_6 rfl ?_
  refine x_bipush C (v := 12) dX7_fill_7 (by decide) rfl ?_
  refine x_mmin C (v := (if (12 : Int32) < (48 : Int32) then (12 : Int32) else (48 : Int32))) w_1022 w_561 w_16 w_562 (Nat.le_of_ble_eq_true rfl) (Nat.le_of_ble_eq_true rfl) (Nat.le_of_ble_eq_true rfl) (Nat.le_of_ble_eq_true rfl) rfl dX7_fill_9 rfl ?_
  refine x_top (v := 12) (by decide) ?_
  refine x_mmin C (v := (if (12 : Int32) < (nI n0) then (12 : Int32) else (nI n0))) w_1022 w_561 w_16 w_562 (Nat.le_of_ble_eq_true rfl) (Nat.le_of_ble_eq_true rfl) (Nat.le_of_ble_eq_true rfl) (Nat.le_of_ble_eq_true rfl) rfl dX7_fill_12 rfl ?_
  have hm2 := min_le2 n0 12
  refine x_top (v := nI (if 12 < n0 then 12 else n0)) (mmin_n n0 12 (by omega) (by decide)) ?_
  obtain ⟨mq3, mqe4⟩ : ∃ z : Nat, z = (if 12 < n0 then 12 else n0) := ⟨_, rfl⟩
  rw [← mqe4] at hm2 ⊢
  obtain ⟨_, k5, v6, v7, v8, n9, bn10, rfl⟩ := hW 103 _ rfl
  obtain ⟨w11, hw12⟩ : ∃ w : va_W, w = List.set ws 103 (ob (a 103) 6 [.int v6, .int v7, .int v8, .ref (a 104), .int (nI mq3)]) := ⟨_, rfl⟩
  refine x_put C (ci := 6) (k := 4) (ty := .int) 103 k5 rfl in_X7 tyX7 tyX7_ok nmX7 (by decide) w_373 rfl rfl rfl rfl (Nat.le_of_ble_eq_true rfl) hw12.symm dX7_fill_15 rfl ?_
  have hW13 : WX (okX E a) w11 := by rw [hw12]; exact hW.set (k := 103) rfl ⟨v6, v7, v8, mq3, by omega, rfl⟩
  have k14 : w11[105]? = some (iA E (a 105) 48 f2) := by rw [hw12]; exact set_ne k1 (by decide)
  have k15 : w11[103]? = some (ob (a 103) 6 [.int v6, .int v7, .int v8, .ref (a 104), .int (nI mq3)]) := by rw [hw12]; exact set_eq k5
  have kp16 := keeps_set kp0 hw12 (by first | exact rfl | decide | omega | (dsimp only; omega))
  refine x_iconst C (v := 0) dX7_fill_18 (by decide) rfl ?_
  refine x_istore C (lv' := [(5, .int 0), (4, .int 0), (0, .ref (a 103)), (1, .ref (a 14)), (2, .ref (a 105)), (3, .int (nI n0))]) dX7_fill_19 (by decide) rfl rfl ?_
  have loop21 : ∀ (fu21 : Nat) (z21_4 : Int32) (k : Nat) (wl21 : va_W), WX (okX E a) wl21 → 12 - k < fu21 → k ≤ 12 → keeps ws wl21 (fun q => 103 ≤ q ∧ q < 105) → X E p l e (xRm 2 0 0) s m ([.ref (a 103), .ref (a 14), .ref (a 105), .int (nI n0)] : List Value).toArray below meth c A 6 0 0 (MQ below (va_Qi (fun r w => WX (okX E a) w ∧ keeps ws w (fun q => 103 ≤ q ∧ q < 105)) (xB E A) A) ([.ref (a 103), .ref (a 14), .ref (a 105), .int (nI n0)] : List Value).toArray s 0 0 A) wl21 21 [(0, .ref (a 103)), (1, .ref (a 14)), (2, .ref (a 105)), (3, .int (nI n0)), (4, .int z21_4), (5, .int (nI k))] [] := by
    intro fu21
    induction fu21 with
    | zero => intro z21_4 k wl21 _ q; omega
    | succ fu21 ih21 =>
      intro z21_4 k wl21 hWl21 me21 iv21_0 kq21
      refine x_iload C dX7_fill_21 5 rfl rfl ?_
      refine x_aload_n C dX7_fill_23 rfl 0 rfl rfl ?_
      obtain ⟨_, k17, v18, v19, v20, n21, bn22, rfl⟩ := hWl21 103 _ rfl
      refine x_get C (ci := 6) (k := 4) 103 k17 rfl in_X7 (by decide) w_373 rfl dX7_fill_24 rfl ?_
      refine x_icmp_ge C (tgt := 63) dX7_fill_27 (by decide) rfl (fun c23 => ?_) (fun c23 => ?_)
      · skip
        have nf24 := nI_le' (a := n21) (b := k) c23 (by omega) (by omega)
        refine x_iload C dX7_fill_63 4 rfl rfl ?_
        exact x_zret C hr hlk rfl dX7_fill_65 ⟨hWl21, kq21⟩
      · skip
        have nf25 := nI_nle' (a := n21) (b := k) c23 (by omega) (by omega)
        refine x_aload_n C dX7_fill_30 rfl 0 rfl rfl ?_
        refine x_get C (ci := 6) (k := 3) 103 k17 rfl in_X7 (by decide) w_372 rfl dX7_fill_31 rfl ?_
        refine x_iload C dX7_fill_34 5 rfl rfl ?_
        refine x_aload_n C dX7_fill_36 rfl 1 rfl rfl ?_
        refine x_aload_n C dX7_fill_37 rfl 2 rfl rfl ?_
        refine x_iload C dX7_fill_38 5 rfl rfl ?_
        obtain ⟨_, k26, f27, rfl⟩ := hWl21 105 _ rfl
        refine x_iald C (v := (f27 (nI k).toNatClampNeg)) 105 k26 (vp_in_nI (by omega) (by decide)) rfl dX7_fill_40 rfl ?_
        refine x_any (fun v28 => ?_)
        obtain ⟨_, k29, n30, bn31, rfl⟩ := hWl21 14 _ rfl
        refine x_vi C (As := [.int v28]) (rest := [.int (nI k), .ref (a 104)]) (c_Eggs_minutesAt E l a wl21 hWl21 5 (Or.inl rfl) v28) mf_X1_minutesAt w_1023 14 k29 rfl rfl rfl (Nat.le_of_ble_eq_true rfl) ⟨(Nat.le_of_ble_eq_true rfl), (Nat.le_of_ble_eq_true rfl)⟩ ⟨(Nat.le_of_ble_eq_true rfl), (Nat.le_of_ble_eq_true rfl)⟩ dX7_fill_41 rfl (fun r33 w34 h32 => ?_)
        have hW35 := h32
        refine x_ws hW35 ?_
        obtain ⟨_, k36, f37, rfl⟩ := hWl21 104 _ rfl
        obtain ⟨w38, hw39⟩ : ∃ w : va_W, w = List.set wl21 104 (iA E (a 104) 12 (upd f37 (nI k).toNatClampNeg r33)) := ⟨_, rfl⟩
        refine x_iast C 104 k36 (vp_in_nI (by omega) (by decide)) hw39.symm dX7_fill_44 rfl ?_
        have hW40 : WX (okX E a) w38 := by rw [hw39]; exact hWl21.set (k := 104) rfl ⟨_, rfl⟩
        have k41 : w38[103]? = some (ob (a 103) 6 [.int v18, .int v19, .int v20, .ref (a 104), .int (nI n21)]) := by rw [hw39]; exact set_ne k17 (by decide)
        have k42 : w38[105]? = some (iA E (a 105) 48 f27) := by rw [hw39]; exact set_ne k26 (by decide)
        have k43 : w38[14]? = some (ob (a 14) 1 [.int (nI n30), .ref (a 15), .ref (a 16), .ref (a 17), .ref (a 18), .ref (a 19), .ref (a 20)]) := by rw [hw39]; exact set_ne k29 (by decide)
        have k44 : w38[104]? = some (iA E (a 104) 12 (upd f37 (nI k).toNatClampNeg r33)) := by rw [hw39]; exact set_eq k36
        have kp45 := keeps_set kq21 hw39 (by first | exact rfl | decide | omega | (dsimp only; omega))
        refine x_iload C dX7_fill_45 4 rfl rfl ?_
        refine x_aload_n C dX7_fill_47 rfl 0 rfl rfl ?_
        refine x_get C (ci := 6) (k := 3) 103 k41 rfl in_X7 (by decide) w_372 rfl dX7_fill_48 rfl ?_
        refine x_iload C dX7_fill_51 5 rfl rfl ?_
        refine x_iald C (v := ((upd f37 (nI k).toNatClampNeg r33) (nI k).toNatClampNeg)) 104 k44 (vp_in_nI (by omega) (by decide)) rfl dX7_fill_53 rfl ?_
        refine x_any (fun v46 => ?_)
        refine x_iadd C (v := (z21_4 + v46)) dX7_fill_54 rfl rfl ?_
        refine x_any (fun v47 => ?_)
        refine x_istore C (lv' := [(4, .int v47), (0, .ref (a 103)), (1, .ref (a 14)), (2, .ref (a 105)), (3, .int (nI n0)), (5, .int (nI k))]) dX7_fill_55 (by decide) rfl rfl ?_
        refine x_iinc C (v := (nI (k + 1))) (lv' := [(5, .int (nI (k + 1))), (4, .int v47), (0, .ref (a 103)), (1, .ref (a 14)), (2, .ref (a 105)), (3, .int (nI n0))]) dX7_fill_57 5 rfl (nI_add k 1) (by decide) rfl rfl ?_
        refine x_goto C (tgt := 21) dX7_fill_60 (by decide) ?_
        refine x_lv (lv1 := [(0, .ref (a 103)), (1, .ref (a 14)), (2, .ref (a 105)), (3, .int (nI n0)), (4, .int v47), (5, .int (nI (k + 1)))]) [2, 3, 4, 5, 1, 0] rfl ?_
        exact ih21 v47 (k + 1) w38 hW40 (by omega) (by omega) kp45
  refine x_lv (lv1 := [(0, .ref (a 103)), (1, .ref (a 14)), (2, .ref (a 105)), (3, .int (nI n0)), (4, .int 0), (5, .int 0)]) [2, 3, 4, 5, 1, 0] rfl ?_
  exact loop21 _ (0 : Int32) 0 w11 hW13 (Nat.lt_succ_self _) (by omega) kp16
