def bc1 (x : Int32) : Int32 := x - ((x.toUInt32 >>> ((1 : Int32).toUInt32 &&& Int32.toUInt32 31)).toInt32 &&& (1431655765 : Int32))
def bc2 (x : Int32) : Int32 := (x &&& (858993459 : Int32)) + ((x.toUInt32 >>> ((2 : Int32).toUInt32 &&& Int32.toUInt32 31)).toInt32 &&& (858993459 : Int32))
def bc3 (x : Int32) : Int32 := (x + (x.toUInt32 >>> ((4 : Int32).toUInt32 &&& Int32.toUInt32 31)).toInt32) &&& (252645135 : Int32)
def bc4 (x : Int32) : Int32 := x + (x.toUInt32 >>> ((8 : Int32).toUInt32 &&& Int32.toUInt32 31)).toInt32
def bc5 (x : Int32) : Int32 := x + (x.toUInt32 >>> ((16 : Int32).toUInt32 &&& Int32.toUInt32 31)).toInt32
def bc (x : Int32) : Int32 := bc5 (bc4 (bc3 (bc2 (bc1 x)))) &&& (63 : Int32)
theorem bc_tab : (List.range 4096).all (fun i => i == 0 || (List.range 12).any (fun k => decide (bc (((nI i) &&& (-(nI i))) - (1 : Int32)) = nI k))) = true := by decide +kernel
theorem bc_low {i : Nat} (h : i < 4096) (h0 : ¬ i = 0) : ∃ k : Nat, k < 12 ∧ bc (((nI i) &&& (-(nI i))) - (1 : Int32)) = nI k := by
  have q := List.all_eq_true.mp bc_tab i (List.mem_range.mpr h)
  rcases (Bool.or_eq_true _ _).mp q with q | q
  · exact absurd (eq_of_beq q) h0
  · obtain ⟨k, hk, e⟩ := List.any_eq_true.mp q
    exact ⟨k, List.mem_range.mp hk, of_decide_eq_true e⟩
theorem shl_tab : (List.range 13).all (fun n => decide ((1 : Int32) <<< ((nI n) &&& 31) = nI (2 ^ n)) && decide (2 ^ n ≤ 4096)) = true := by decide +kernel
theorem shl_low {n : Nat} (h : n ≤ 12) : ∃ z : Nat, z ≤ 4096 ∧ (1 : Int32) <<< ((nI n) &&& 31) = nI z := by
  have q := List.all_eq_true.mp shl_tab n (List.mem_range.mpr (by omega))
  obtain ⟨q1, q2⟩ := (Bool.and_eq_true _ _).mp q
  exact ⟨2 ^ n, of_decide_eq_true q2, of_decide_eq_true q1⟩
theorem dJ6_bitCount_0f7a4_0 : decode cJ6_bitCount_0f7a4 0 = .ok (.iload_n 0, 1) := by decide +kernel
theorem dJ6_bitCount_0f7a4_1 : decode cJ6_bitCount_0f7a4 1 = .ok (.iload_n 0, 1) := by decide +kernel
theorem dJ6_bitCount_0f7a4_2 : decode cJ6_bitCount_0f7a4 2 = .ok (.iconst 1, 1) := by decide +kernel
theorem dJ6_bitCount_0f7a4_3 : decode cJ6_bitCount_0f7a4 3 = .ok (.iushr, 1) := by decide +kernel
theorem dJ6_bitCount_0f7a4_4 : decode cJ6_bitCount_0f7a4 4 = .ok (.ldc_w 265, 3) := by decide +kernel
theorem dJ6_bitCount_0f7a4_7 : decode cJ6_bitCount_0f7a4 7 = .ok (.iand, 1) := by decide +kernel
theorem dJ6_bitCount_0f7a4_8 : decode cJ6_bitCount_0f7a4 8 = .ok (.isub, 1) := by decide +kernel
theorem dJ6_bitCount_0f7a4_9 : decode cJ6_bitCount_0f7a4 9 = .ok (.istore_n 0, 1) := by decide +kernel
theorem dJ6_bitCount_0f7a4_10 : decode cJ6_bitCount_0f7a4 10 = .ok (.iload_n 0, 1) := by decide +kernel
theorem dJ6_bitCount_0f7a4_11 : decode cJ6_bitCount_0f7a4 11 = .ok (.ldc_w 266, 3) := by decide +kernel
theorem dJ6_bitCount_0f7a4_14 : decode cJ6_bitCount_0f7a4 14 = .ok (.iand, 1) := by decide +kernel
theorem dJ6_bitCount_0f7a4_15 : decode cJ6_bitCount_0f7a4 15 = .ok (.iload_n 0, 1) := by decide +kernel
theorem dJ6_bitCount_0f7a4_16 : decode cJ6_bitCount_0f7a4 16 = .ok (.iconst 2, 1) := by decide +kernel
theorem dJ6_bitCount_0f7a4_17 : decode cJ6_bitCount_0f7a4 17 = .ok (.iushr, 1) := by decide +kernel
theorem dJ6_bitCount_0f7a4_18 : decode cJ6_bitCount_0f7a4 18 = .ok (.ldc_w 266, 3) := by decide +kernel
theorem dJ6_bitCount_0f7a4_21 : decode cJ6_bitCount_0f7a4 21 = .ok (.iand, 1) := by decide +kernel
theorem dJ6_bitCount_0f7a4_22 : decode cJ6_bitCount_0f7a4 22 = .ok (.iadd, 1) := by decide +kernel
theorem dJ6_bitCount_0f7a4_23 : decode cJ6_bitCount_0f7a4 23 = .ok (.istore_n 0, 1) := by decide +kernel
theorem dJ6_bitCount_0f7a4_24 : decode cJ6_bitCount_0f7a4 24 = .ok (.iload_n 0, 1) := by decide +kernel
theorem dJ6_bitCount_0f7a4_25 : decode cJ6_bitCount_0f7a4 25 = .ok (.iload_n 0, 1) := by decide +kernel
theorem dJ6_bitCount_0f7a4_26 : decode cJ6_bitCount_0f7a4 26 = .ok (.iconst 4, 1) := by decide +kernel
theorem dJ6_bitCount_0f7a4_27 : decode cJ6_bitCount_0f7a4 27 = .ok (.iushr, 1) := by decide +kernel
theorem dJ6_bitCount_0f7a4_28 : decode cJ6_bitCount_0f7a4 28 = .ok (.iadd, 1) := by decide +kernel
theorem dJ6_bitCount_0f7a4_29 : decode cJ6_bitCount_0f7a4 29 = .ok (.ldc_w 267, 3) := by decide +kernel
theorem dJ6_bitCount_0f7a4_32 : decode cJ6_bitCount_0f7a4 32 = .ok (.iand, 1) := by decide +kernel
theorem dJ6_bitCount_0f7a4_33 : decode cJ6_bitCount_0f7a4 33 = .ok (.istore_n 0, 1) := by decide +kernel
theorem dJ6_bitCount_0f7a4_34 : decode cJ6_bitCount_0f7a4 34 = .ok (.iload_n 0, 1) := by decide +kernel
theorem dJ6_bitCount_0f7a4_35 : decode cJ6_bitCount_0f7a4 35 = .ok (.iload_n 0, 1) := by decide +kernel
theorem dJ6_bitCount_0f7a4_36 : decode cJ6_bitCount_0f7a4 36 = .ok (.bipush 8, 2) := by decide +kernel
theorem dJ6_bitCount_0f7a4_38 : decode cJ6_bitCount_0f7a4 38 = .ok (.iushr, 1) := by decide +kernel
theorem dJ6_bitCount_0f7a4_39 : decode cJ6_bitCount_0f7a4 39 = .ok (.iadd, 1) := by decide +kernel
theorem dJ6_bitCount_0f7a4_40 : decode cJ6_bitCount_0f7a4 40 = .ok (.istore_n 0, 1) := by decide +kernel
theorem dJ6_bitCount_0f7a4_41 : decode cJ6_bitCount_0f7a4 41 = .ok (.iload_n 0, 1) := by decide +kernel
theorem dJ6_bitCount_0f7a4_42 : decode cJ6_bitCount_0f7a4 42 = .ok (.iload_n 0, 1) := by decide +kernel
theorem dJ6_bitCount_0f7a4_43 : decode cJ6_bitCount_0f7a4 43 = .ok (.bipush 16, 2) := by decide +kernel
theorem dJ6_bitCount_0f7a4_45 : decode cJ6_bitCount_0f7a4 45 = .ok (.iushr, 1) := by decide +kernel
theorem dJ6_bitCount_0f7a4_46 : decode cJ6_bitCount_0f7a4 46 = .ok (.iadd, 1) := by decide +kernel
theorem dJ6_bitCount_0f7a4_47 : decode cJ6_bitCount_0f7a4 47 = .ok (.istore_n 0, 1) := by decide +kernel
theorem dJ6_bitCount_0f7a4_48 : decode cJ6_bitCount_0f7a4 48 = .ok (.iload_n 0, 1) := by decide +kernel
theorem dJ6_bitCount_0f7a4_49 : decode cJ6_bitCount_0f7a4 49 = .ok (.bipush 63, 2) := by decide +kernel
theorem dJ6_bitCount_0f7a4_51 : decode cJ6_bitCount_0f7a4 51 = .ok (.iand, 1) := by decide +kernel
theorem dJ6_bitCount_0f7a4_52 : decode cJ6_bitCount_0f7a4 52 = .ok (.ireturn, 1) := by decide +kernel
set_option maxRecDepth 20000 in
set_option maxHeartbeats 4000000 in
theorem c_bitCount (E : xE) (l : Launch) (a : Nat → Nat) (ws : va_W) (hW : WX (okX E a) ws) (p0 : Int32) : xI E l yJ6_bitCount_0f7a4 cJ6_bitCount_0f7a4 1 (some .int) 0 [.int p0] ws (fun r w => w = ws ∧ (r = bc p0)) := by
  refine xI_start (lv := [(0, .int p0)]) RJ6 (by decide) rfl (Nat.le_of_ble_eq_true rfl) rfl (fun p e s m below meth c A C hr hlk => ?_)
  refine x_iload_n C dJ6_bitCount_0f7a4_0 rfl 0 rfl rfl ?_
  refine x_iload_n C dJ6_bitCount_0f7a4_1 rfl 0 rfl rfl ?_
  refine x_iconst C (v := 1) dJ6_bitCount_0f7a4_2 (by decide) rfl ?_
  refine x_iushr C (v := (p0.toUInt32 >>> ((1 : Int32).toUInt32 &&& Int32.toUInt32 31)).toInt32) dJ6_bitCount_0f7a4_3 rfl rfl ?_
  refine x_ldcw C w_906 dJ6_bitCount_0f7a4_4 rfl ?_
  refine x_iand C (v := ((p0.toUInt32 >>> ((1 : Int32).toUInt32 &&& Int32.toUInt32 31)).toInt32 &&& (1431655765 : Int32))) dJ6_bitCount_0f7a4_7 rfl rfl ?_
  refine x_isub C (v := (bc1 p0)) dJ6_bitCount_0f7a4_8 rfl rfl ?_
  refine x_istore_n C (lv' := [(0, .int (bc1 p0))]) dJ6_bitCount_0f7a4_9 rfl (by decide) rfl rfl ?_
  refine x_iload_n C dJ6_bitCount_0f7a4_10 rfl 0 rfl rfl ?_
  refine x_ldcw C w_907 dJ6_bitCount_0f7a4_11 rfl ?_
  refine x_iand C (v := ((bc1 p0) &&& (858993459 : Int32))) dJ6_bitCount_0f7a4_14 rfl rfl ?_
  refine x_iload_n C dJ6_bitCount_0f7a4_15 rfl 0 rfl rfl ?_
  refine x_iconst C (v := 2) dJ6_bitCount_0f7a4_16 (by decide) rfl ?_
  refine x_iushr C (v := ((bc1 p0).toUInt32 >>> ((2 : Int32).toUInt32 &&& Int32.toUInt32 31)).toInt32) dJ6_bitCount_0f7a4_17 rfl rfl ?_
  refine x_ldcw C w_907 dJ6_bitCount_0f7a4_18 rfl ?_
  refine x_iand C (v := (((bc1 p0).toUInt32 >>> ((2 : Int32).toUInt32 &&& Int32.toUInt32 31)).toInt32 &&& (858993459 : Int32))) dJ6_bitCount_0f7a4_21 rfl rfl ?_
  refine x_iadd C (v := (bc2 (bc1 p0))) dJ6_bitCount_0f7a4_22 rfl rfl ?_
  refine x_istore_n C (lv' := [(0, .int (bc2 (bc1 p0)))]) dJ6_bitCount_0f7a4_23 rfl (by decide) rfl rfl ?_
  refine x_iload_n C dJ6_bitCount_0f7a4_24 rfl 0 rfl rfl ?_
  refine x_iload_n C dJ6_bitCount_0f7a4_25 rfl 0 rfl rfl ?_
  refine x_iconst C (v := 4) dJ6_bitCount_0f7a4_26 (by decide) rfl ?_
  refine x_iushr C (v := ((bc2 (bc1 p0)).toUInt32 >>> ((4 : Int32).toUInt32 &&& Int32.toUInt32 31)).toInt32) dJ6_bitCount_0f7a4_27 rfl rfl ?_
  refine x_iadd C (v := ((bc2 (bc1 p0)) + ((bc2 (bc1 p0)).toUInt32 >>> ((4 : Int32).toUInt32 &&& Int32.toUInt32 31)).toInt32)) dJ6_bitCount_0f7a4_28 rfl rfl ?_
  refine x_ldcw C w_908 dJ6_bitCount_0f7a4_29 rfl ?_
  refine x_iand C (v := (bc3 (bc2 (bc1 p0)))) dJ6_bitCount_0f7a4_32 rfl rfl ?_
  refine x_istore_n C (lv' := [(0, .int (bc3 (bc2 (bc1 p0))))]) dJ6_bitCount_0f7a4_33 rfl (by decide) rfl rfl ?_
  refine x_iload_n C dJ6_bitCount_0f7a4_34 rfl 0 rfl rfl ?_
  refine x_iload_n C dJ6_bitCount_0f7a4_35 rfl 0 rfl rfl ?_
  refine x_bipush C (v := 8) dJ6_bitCount_0f7a4_36 (by decide) rfl ?_
  refine x_iushr C (v := ((bc3 (bc2 (bc1 p0))).toUInt32 >>> ((8 : Int32).toUInt32 &&& Int32.toUInt32 31)).toInt32) dJ6_bitCount_0f7a4_38 rfl rfl ?_
  refine x_iadd C (v := (bc4 (bc3 (bc2 (bc1 p0))))) dJ6_bitCount_0f7a4_39 rfl rfl ?_
  refine x_istore_n C (lv' := [(0, .int (bc4 (bc3 (bc2 (bc1 p0)))))]) dJ6_bitCount_0f7a4_40 rfl (by decide) rfl rfl ?_
  refine x_iload_n C dJ6_bitCount_0f7a4_41 rfl 0 rfl rfl ?_
  refine x_iload_n C dJ6_bitCount_0f7a4_42 rfl 0 rfl rfl ?_
  refine x_bipush C (v := 16) dJ6_bitCount_0f7a4_43 (by decide) rfl ?_
  refine x_iushr C (v := ((bc4 (bc3 (bc2 (bc1 p0)))).toUInt32 >>> ((16 : Int32).toUInt32 &&& Int32.toUInt32 31)).toInt32) dJ6_bitCount_0f7a4_45 rfl rfl ?_
  refine x_iadd C (v := (bc5 (bc4 (bc3 (bc2 (bc1 p0)))))) dJ6_bitCount_0f7a4_46 rfl rfl ?_
  refine x_istore_n C (lv' := [(0, .int (bc5 (bc4 (bc3 (bc2 (bc1 p0))))))]) dJ6_bitCount_0f7a4_47 rfl (by decide) rfl rfl ?_
  refine x_iload_n C dJ6_bitCount_0f7a4_48 rfl 0 rfl rfl ?_
  refine x_bipush C (v := 63) dJ6_bitCount_0f7a4_49 (by decide) rfl ?_
  refine x_iand C (v := ((bc5 (bc4 (bc3 (bc2 (bc1 p0))))) &&& (63 : Int32))) dJ6_bitCount_0f7a4_51 rfl rfl ?_
  exact x_zret C hr hlk rfl dJ6_bitCount_0f7a4_52 ⟨rfl, rfl⟩
theorem dX7_note_0 : decode cX7_note 0 = .ok (.aload_n 0, 1) := by decide +kernel
theorem dX7_note_1 : decode cX7_note 1 = .ok (.dup, 1) := by decide +kernel
theorem dX7_note_2 : decode cX7_note 2 = .ok (.getfield 9, 3) := by decide +kernel
theorem dX7_note_5 : decode cX7_note 5 = .ok (.iconst 1, 1) := by decide +kernel
theorem dX7_note_6 : decode cX7_note 6 = .ok (.iadd, 1) := by decide +kernel
theorem dX7_note_7 : decode cX7_note 7 = .ok (.putfield 9, 3) := by decide +kernel
theorem dX7_note_10 : decode cX7_note 10 = .ok (.aload_n 0, 1) := by decide +kernel
theorem dX7_note_11 : decode cX7_note 11 = .ok (.aload_n 0, 1) := by decide +kernel
theorem dX7_note_12 : decode cX7_note 12 = .ok (.getfield 15, 3) := by decide +kernel
theorem dX7_note_15 : decode cX7_note 15 = .ok (.ifCond .lt 11, 3) := by decide +kernel
theorem dX7_note_18 : decode cX7_note 18 = .ok (.iload_n 1, 1) := by decide +kernel
theorem dX7_note_19 : decode cX7_note 19 = .ok (.aload_n 0, 1) := by decide +kernel
theorem dX7_note_20 : decode cX7_note 20 = .ok (.getfield 15, 3) := by decide +kernel
theorem dX7_note_23 : decode cX7_note 23 = .ok (.if_icmp .ge 7, 3) := by decide +kernel
theorem dX7_note_26 : decode cX7_note 26 = .ok (.iload_n 1, 1) := by decide +kernel
theorem dX7_note_27 : decode cX7_note 27 = .ok (.goto 7, 3) := by decide +kernel
theorem dX7_note_30 : decode cX7_note 30 = .ok (.aload_n 0, 1) := by decide +kernel
theorem dX7_note_31 : decode cX7_note 31 = .ok (.getfield 15, 3) := by decide +kernel
theorem dX7_note_34 : decode cX7_note 34 = .ok (.putfield 15, 3) := by decide +kernel
theorem dX7_note_37 : decode cX7_note 37 = .ok (.aload_n 0, 1) := by decide +kernel
theorem dX7_note_38 : decode cX7_note 38 = .ok (.getfield 18, 3) := by decide +kernel
theorem dX7_note_41 : decode cX7_note 41 = .ok (.ifCond .ge 7, 3) := by decide +kernel
theorem dX7_note_44 : decode cX7_note 44 = .ok (.iconst (-1), 1) := by decide +kernel
theorem dX7_note_45 : decode cX7_note 45 = .ok (.goto 15, 3) := by decide +kernel
theorem dX7_note_48 : decode cX7_note 48 = .ok (.iload_n 1, 1) := by decide +kernel
theorem dX7_note_49 : decode cX7_note 49 = .ok (.invokestatic 40, 3) := by decide +kernel
theorem dX7_note_52 : decode cX7_note 52 = .ok (.aload_n 0, 1) := by decide +kernel
theorem dX7_note_53 : decode cX7_note 53 = .ok (.getfield 18, 3) := by decide +kernel
theorem dX7_note_56 : decode cX7_note 56 = .ok (.invokestatic 40, 3) := by decide +kernel
theorem dX7_note_59 : decode cX7_note 59 = .ok (.isub, 1) := by decide +kernel
theorem dX7_note_60 : decode cX7_note 60 = .ok (.istore_n 2, 1) := by decide +kernel
theorem dX7_note_61 : decode cX7_note 61 = .ok (.aload_n 0, 1) := by decide +kernel
theorem dX7_note_62 : decode cX7_note 62 = .ok (.iload_n 2, 1) := by decide +kernel
theorem dX7_note_63 : decode cX7_note 63 = .ok (.ifCond .lt 15, 3) := by decide +kernel
theorem dX7_note_66 : decode cX7_note 66 = .ok (.iload_n 2, 1) := by decide +kernel
theorem dX7_note_67 : decode cX7_note 67 = .ok (.ifCond .ne 15, 3) := by decide +kernel
theorem dX7_note_70 : decode cX7_note 70 = .ok (.iload_n 1, 1) := by decide +kernel
theorem dX7_note_71 : decode cX7_note 71 = .ok (.aload_n 0, 1) := by decide +kernel
theorem dX7_note_72 : decode cX7_note 72 = .ok (.getfield 18, 3) := by decide +kernel
theorem dX7_note_75 : decode cX7_note 75 = .ok (.if_icmp .ge 7, 3) := by decide +kernel
theorem dX7_note_78 : decode cX7_note 78 = .ok (.iload_n 1, 1) := by decide +kernel
theorem dX7_note_79 : decode cX7_note 79 = .ok (.goto 7, 3) := by decide +kernel
theorem dX7_note_82 : decode cX7_note 82 = .ok (.aload_n 0, 1) := by decide +kernel
theorem dX7_note_83 : decode cX7_note 83 = .ok (.getfield 18, 3) := by decide +kernel
theorem dX7_note_86 : decode cX7_note 86 = .ok (.putfield 18, 3) := by decide +kernel
theorem dX7_note_89 : decode cX7_note 89 = .ok (.return_, 1) := by decide +kernel
set_option maxRecDepth 20000 in
set_option maxHeartbeats 4000000 in
theorem c_note (E : xE) (l : Launch) (a : Nat → Nat) (ws : va_W) (hW : WX (okX E a) ws) (p0 : Int32) : xV E l yX7_note cX7_note 3 1 0 0 [.ref (a 103), .int p0] ws (fun w => WX (okX E a) w ∧ keeps ws w (fun q => 103 ≤ q ∧ q < 105)) := by
  refine xV_start (lv := [(0, .ref (a 103)), (1, .int p0)]) RX7 (by decide) rfl (Nat.le_of_ble_eq_true rfl) rfl (fun p e s m below meth c A C hr hlk hin => ?_)
  have kp0 : keeps ws ws (fun q => 103 ≤ q ∧ q < 105) := keeps_rf
  refine x_aload_n C dX7_note_0 rfl 0 rfl rfl ?_
  refine x_dup C dX7_note_1 rfl rfl ?_
  obtain ⟨_, k1, v2, v3, v4, n5, bn6, rfl⟩ := hW 103 _ rfl
  refine x_get C (ci := 6) (k := 0) 103 k1 rfl in_X7 (by decide) w_366 rfl dX7_note_2 rfl ?_
  refine x_iconst C (v := 1) dX7_note_5 (by decide) rfl ?_
  refine x_iadd C (v := (v2 + (1 : Int32))) dX7_note_6 rfl rfl ?_
  refine x_any (fun v7 => ?_)
  obtain ⟨w8, hw9⟩ : ∃ w : va_W, w = List.set ws 103 (ob (a 103) 6 [.int v7, .int v3, .int v4, .ref (a 104), .int (nI n5)]) := ⟨_, rfl⟩
  refine x_put C (ci := 6) (k := 0) (ty := .int) 103 k1 rfl in_X7 tyX7 tyX7_ok nmX7 (by decide) w_366 rfl rfl rfl rfl (Nat.le_of_ble_eq_true rfl) hw9.symm dX7_note_7 rfl ?_
  have hW10 : WX (okX E a) w8 := by rw [hw9]; exact hW.set (k := 103) rfl ⟨v7, v3, v4, n5, by omega, rfl⟩
  have k11 : w8[103]? = some (ob (a 103) 6 [.int v7, .int v3, .int v4, .ref (a 104), .int (nI n5)]) := by rw [hw9]; exact set_eq k1
  have kp12 := keeps_set kp0 hw9 (by first | exact rfl | decide | omega | (dsimp only; omega))
  refine x_aload_n C dX7_note_10 rfl 0 rfl rfl ?_
  refine x_aload_n C dX7_note_11 rfl 0 rfl rfl ?_
  refine x_get C (ci := 6) (k := 1) 103 k11 rfl in_X7 (by decide) w_368 rfl dX7_note_12 rfl ?_
  refine x_if_lt C (tgt := 26) dX7_note_15 (by decide) rfl (fun c13 => ?_) (fun c13 => ?_)
  · skip
    refine x_iload_n C dX7_note_26 rfl 1 rfl rfl ?_
    refine x_goto C (tgt := 34) dX7_note_27 (by decide) ?_
    obtain ⟨w14, hw15⟩ : ∃ w : va_W, w = List.set w8 103 (ob (a 103) 6 [.int v7, .int p0, .int v4, .ref (a 104), .int (nI n5)]) := ⟨_, rfl⟩
    refine x_put C (ci := 6) (k := 1) (ty := .int) 103 k11 rfl in_X7 tyX7 tyX7_ok nmX7 (by decide) w_368 rfl rfl rfl rfl (Nat.le_of_ble_eq_true rfl) hw15.symm dX7_note_34 rfl ?_
    have hW16 : WX (okX E a) w14 := by rw [hw15]; exact hW10.set (k := 103) rfl ⟨v7, p0, v4, n5, by omega, rfl⟩
    have k17 : w14[103]? = some (ob (a 103) 6 [.int v7, .int p0, .int v4, .ref (a 104), .int (nI n5)]) := by rw [hw15]; exact set_eq k11
    have kp18 := keeps_set kp12 hw15 (by first | exact rfl | decide | omega | (dsimp only; omega))
    refine x_aload_n C dX7_note_37 rfl 0 rfl rfl ?_
    refine x_get C (ci := 6) (k := 2) 103 k17 rfl in_X7 (by decide) w_370 rfl dX7_note_38 rfl ?_
    refine x_if_ge C (tgt := 48) dX7_note_41 (by decide) rfl (fun c19 => ?_) (fun c19 => ?_)
    · skip
      obtain ⟨j20, hj21, ej22⟩ := nI_of (Int32.not_lt.mpr c19)
      subst ej22
      refine x_iload_n C dX7_note_48 rfl 1 rfl rfl ?_
      refine x_si C (As := [.int p0]) (rest := []) (c_bitCount E l a w14 hW16 p0) mf_J6_bitCount_0f7a4 w_1028 rfl rfl (Nat.le_of_ble_eq_true rfl) ⟨(Nat.le_of_ble_eq_true rfl), (Nat.le_of_ble_eq_true rfl)⟩ ⟨(Nat.le_of_ble_eq_true rfl), (Nat.le_of_ble_eq_true rfl)⟩ dX7_note_49 rfl (fun r24 w25 h23 => ?_)
      obtain ⟨hW26, x27⟩ := h23
      refine x_ws hW26 ?_
      refine x_aload_n C dX7_note_52 rfl 0 rfl rfl ?_
      refine x_get C (ci := 6) (k := 2) 103 k17 rfl in_X7 (by decide) w_370 rfl dX7_note_53 rfl ?_
      refine x_si C (As := [.int (nI j20)]) (rest := [.int r24]) (c_bitCount E l a w14 hW16 ((nI j20))) mf_J6_bitCount_0f7a4 w_1028 rfl rfl (Nat.le_of_ble_eq_true rfl) ⟨(Nat.le_of_ble_eq_true rfl), (Nat.le_of_ble_eq_true rfl)⟩ ⟨(Nat.le_of_ble_eq_true rfl), (Nat.le_of_ble_eq_true rfl)⟩ dX7_note_56 rfl (fun r29 w30 h28 => ?_)
      obtain ⟨hW31, x32⟩ := h28
      refine x_ws hW31 ?_
      refine x_isub C (v := (r24 - r29)) dX7_note_59 rfl rfl ?_
      refine x_any (fun v33 => ?_)
      refine x_istore_n C (lv' := [(2, .int v33), (0, .ref (a 103)), (1, .int p0)]) dX7_note_60 rfl (by decide) rfl rfl ?_
      refine x_aload_n C dX7_note_61 rfl 1 rfl rfl ?_
      refine x_iload_n C dX7_note_62 rfl 0 rfl rfl ?_
      refine x_if_lt C (tgt := 78) dX7_note_63 (by decide) rfl (fun c34 => ?_) (fun c34 => ?_)
      · skip
        refine x_iload_n C dX7_note_78 rfl 2 rfl rfl ?_
        refine x_goto C (tgt := 86) dX7_note_79 (by decide) ?_
        obtain ⟨w35, hw36⟩ : ∃ w : va_W, w = List.set w14 103 (ob (a 103) 6 [.int v7, .int p0, .int p0, .ref (a 104), .int (nI n5)]) := ⟨_, rfl⟩
        refine x_put C (ci := 6) (k := 2) (ty := .int) 103 k17 rfl in_X7 tyX7 tyX7_ok nmX7 (by decide) w_370 rfl rfl rfl rfl (Nat.le_of_ble_eq_true rfl) hw36.symm dX7_note_86 rfl ?_
        have hW37 : WX (okX E a) w35 := by rw [hw36]; exact hW16.set (k := 103) rfl ⟨v7, p0, p0, n5, by omega, rfl⟩
        have k38 : w35[103]? = some (ob (a 103) 6 [.int v7, .int p0, .int p0, .ref (a 104), .int (nI n5)]) := by rw [hw36]; exact set_eq k17
        have kp39 := keeps_set kp18 hw36 (by first | exact rfl | decide | omega | (dsimp only; omega))
        exact x_vret C hr hlk dX7_note_89 ⟨hW37, kp39⟩
      · skip
        obtain ⟨j40, hj41, ej42⟩ := nI_of c34
        subst ej42
        refine x_iload_n C dX7_note_66 rfl 0 rfl rfl ?_
        refine x_if_ne C (tgt := 82) dX7_note_67 (by decide) rfl (fun c43 => ?_) (fun c43 => ?_)
        · skip
          have nf44 : ¬ j40 = 0 := fun q => c43 (congrArg nI q)
          refine x_aload_n C dX7_note_82 rfl 1 rfl rfl ?_
          refine x_get C (ci := 6) (k := 2) 103 k17 rfl in_X7 (by decide) w_370 rfl dX7_note_83 rfl ?_
          obtain ⟨w45, hw46⟩ : ∃ w : va_W, w = List.set w14 103 (ob (a 103) 6 [.int v7, .int p0, .int (nI j20), .ref (a 104), .int (nI n5)]) := ⟨_, rfl⟩
          refine x_put C (ci := 6) (k := 2) (ty := .int) 103 k17 rfl in_X7 tyX7 tyX7_ok nmX7 (by decide) w_370 rfl rfl rfl rfl (Nat.le_of_ble_eq_true rfl) hw46.symm dX7_note_86 rfl ?_
          have hW47 : WX (okX E a) w45 := by rw [hw46]; exact hW16.set (k := 103) rfl ⟨v7, p0, (nI j20), n5, by omega, rfl⟩
          have k48 : w45[103]? = some (ob (a 103) 6 [.int v7, .int p0, .int (nI j20), .ref (a 104), .int (nI n5)]) := by rw [hw46]; exact set_eq k17
          have kp49 := keeps_set kp18 hw46 (by first | exact rfl | decide | omega | (dsimp only; omega))
          exact x_vret C hr hlk dX7_note_89 ⟨hW47, kp49⟩
        · skip
          have nf50 : j40 = 0 := (nI_eq (by omega) (by omega)).mp c43
          refine x_iload_n C dX7_note_70 rfl 2 rfl rfl ?_
          refine x_aload_n C dX7_note_71 rfl 1 rfl rfl ?_
          refine x_get C (ci := 6) (k := 2) 103 k17 rfl in_X7 (by decide) w_370 rfl dX7_note_72 rfl ?_
          refine x_icmp_ge C (tgt := 82) dX7_note_75 (by decide) rfl (fun c51 => ?_) (fun c51 => ?_)
          · skip
            refine x_aload_n C dX7_note_82 rfl 1 rfl rfl ?_
            refine x_get C (ci := 6) (k := 2) 103 k17 rfl in_X7 (by decide) w_370 rfl dX7_note_83 rfl ?_
            obtain ⟨w52, hw53⟩ : ∃ w : va_W, w = List.set w14 103 (ob (a 103) 6 [.int v7, .int p0, .int (nI j20), .ref (a 104), .int (nI n5)]) := ⟨_, rfl⟩
            refine x_put C (ci := 6) (k := 2) (ty := .int) 103 k17 rfl in_X7 tyX7 tyX7_ok nmX7 (by decide) w_370 rfl rfl rfl rfl (Nat.le_of_ble_eq_true rfl) hw53.symm dX7_note_86 rfl ?_
            have hW54 : WX (okX E a) w52 := by rw [hw53]; exact hW16.set (k := 103) rfl ⟨v7, p0, (nI j20), n5, by omega, rfl⟩
            have k55 : w52[103]? = some (ob (a 103) 6 [.int v7, .int p0, .int (nI j20), .ref (a 104), .int (nI n5)]) := by rw [hw53]; exact set_eq k17
            have kp56 := keeps_set kp18 hw53 (by first | exact rfl | decide | omega | (dsimp only; omega))
            exact x_vret C hr hlk dX7_note_89 ⟨hW54, kp56⟩
          · skip
            refine x_iload_n C dX7_note_78 rfl 2 rfl rfl ?_
            refine x_goto C (tgt := 86) dX7_note_79 (by decide) ?_
            obtain ⟨w57, hw58⟩ : ∃ w : va_W, w = List.set w14 103 (ob (a 103) 6 [.int v7, .int p0, .int p0, .ref (a 104), .int (nI n5)]) := ⟨_, rfl⟩
            refine x_put C (ci := 6) (k := 2) (ty := .int) 103 k17 rfl in_X7 tyX7 tyX7_ok nmX7 (by decide) w_370 rfl rfl rfl rfl (Nat.le_of_ble_eq_true rfl) hw58.symm dX7_note_86 rfl ?_
            have hW59 : WX (okX E a) w57 := by rw [hw58]; exact hW16.set (k := 103) rfl ⟨v7, p0, p0, n5, by omega, rfl⟩
            have k60 : w57[103]? = some (ob (a 103) 6 [.int v7, .int p0, .int p0, .ref (a 104), .int (nI n5)]) := by rw [hw58]; exact set_eq k17
            have kp61 := keeps_set kp18 hw58 (by first | exact rfl | decide | omega | (dsimp only; omega))
            exact x_vret C hr hlk dX7_note_89 ⟨hW59, kp61⟩
    · skip
      refine x_iconst C (v := (-1)) dX7_note_44 (by decide) rfl ?_
      refine x_goto C (tgt := 60) dX7_note_45 (by decide) ?_
      refine x_istore_n C (lv' := [(2, .int (-1)), (0, .ref (a 103)), (1, .int p0)]) dX7_note_60 rfl (by decide) rfl rfl ?_
      refine x_aload_n C dX7_note_61 rfl 1 rfl rfl ?_
      refine x_iload_n C dX7_note_62 rfl 0 rfl rfl ?_
      refine x_if_lt C (tgt := 78) dX7_note_63 (by decide) rfl (fun _ => ?_) (fun h => absurd h (by decide))
      refine x_iload_n C dX7_note_78 rfl 2 rfl rfl ?_
      refine x_goto C (tgt := 86) dX7_note_79 (by decide) ?_
      obtain ⟨w62, hw63⟩ : ∃ w : va_W, w = List.set w14 103 (ob (a 103) 6 [.int v7, .int p0, .int p0, .ref (a 104), .int (nI n5)]) := ⟨_, rfl⟩
      refine x_put C (ci := 6) (k := 2) (ty := .int) 103 k17 rfl in_X7 tyX7 tyX7_ok nmX7 (by decide) w_370 rfl rfl rfl rfl (Nat.le_of_ble_eq_true rfl) hw63.symm dX7_note_86 rfl ?_
      have hW64 : WX (okX E a) w62 := by rw [hw63]; exact hW16.set (k := 103) rfl ⟨v7, p0, p0, n5, by omega, rfl⟩
      have k65 : w62[103]? = some (ob (a 103) 6 [.int v7, .int p0, .int p0, .ref (a 104), .int (nI n5)]) := by rw [hw63]; exact set_eq k17
      have kp66 := keeps_set kp18 hw63 (by first | exact rfl | decide | omega | (dsimp only; omega))
      exact x_vret C hr hlk dX7_note_89 ⟨hW64, kp66⟩
  · skip
    obtain ⟨j67, hj68, ej69⟩ := nI_of c13
    subst ej69
    refine x_iload_n C dX7_note_18 rfl 1 rfl rfl ?_
    refine x_aload_n C dX7_note_19 rfl 0 rfl rfl ?_
    refine x_get C (ci := 6) (k := 1) 103 k11 rfl in_X7 (by decide) w_368 rfl dX7_note_20 rfl ?_
    refine x_icmp_ge C (tgt := 30) dX7_note_23 (by decide) rfl (fun c70 => ?_) (fun c70 => ?_)
    · skip
      refine x_aload_n C dX7_note_30 rfl 0 rfl rfl ?_
      refine x_get C (ci := 6) (k := 1) 103 k11 rfl in_X7 (by decide) w_368 rfl dX7_note_31 rfl ?_
      obtain ⟨w71, hw72⟩ : ∃ w : va_W, w = List.set w8 103 (ob (a 103) 6 [.int v7, .int (nI j67), .int v4, .ref (a 104), .int (nI n5)]) := ⟨_, rfl⟩
      refine x_put C (ci := 6) (k := 1) (ty := .int) 103 k11 rfl in_X7 tyX7 tyX7_ok nmX7 (by decide) w_368 rfl rfl rfl rfl (Nat.le_of_ble_eq_true rfl) hw72.symm dX7_note_34 rfl ?_
      have hW73 : WX (okX E a) w71 := by rw [hw72]; exact hW10.set (k := 103) rfl ⟨v7, (nI j67), v4, n5, by omega, rfl⟩
      have k74 : w71[103]? = some (ob (a 103) 6 [.int v7, .int (nI j67), .int v4, .ref (a 104), .int (nI n5)]) := by rw [hw72]; exact set_eq k11
      have kp75 := keeps_set kp12 hw72 (by first | exact rfl | decide | omega | (dsimp only; omega))
      refine x_aload_n C dX7_note_37 rfl 0 rfl rfl ?_
      refine x_get C (ci := 6) (k := 2) 103 k74 rfl in_X7 (by decide) w_370 rfl dX7_note_38 rfl ?_
      refine x_if_ge C (tgt := 48) dX7_note_41 (by decide) rfl (fun c76 => ?_) (fun c76 => ?_)
      · skip
        obtain ⟨j77, hj78, ej79⟩ := nI_of (Int32.not_lt.mpr c76)
        subst ej79
        refine x_iload_n C dX7_note_48 rfl 1 rfl rfl ?_
        refine x_si C (As := [.int p0]) (rest := []) (c_bitCount E l a w71 hW73 p0) mf_J6_bitCount_0f7a4 w_1028 rfl rfl (Nat.le_of_ble_eq_true rfl) ⟨(Nat.le_of_ble_eq_true rfl), (Nat.le_of_ble_eq_true rfl)⟩ ⟨(Nat.le_of_ble_eq_true rfl), (Nat.le_of_ble_eq_true rfl)⟩ dX7_note_49 rfl (fun r81 w82 h80 => ?_)
        obtain ⟨hW83, x84⟩ := h80
        refine x_ws hW83 ?_
        refine x_aload_n C dX7_note_52 rfl 0 rfl rfl ?_
        refine x_get C (ci := 6) (k := 2) 103 k74 rfl in_X7 (by decide) w_370 rfl dX7_note_53 rfl ?_
        refine x_si C (As := [.int (nI j77)]) (rest := [.int r81]) (c_bitCount E l a w71 hW73 ((nI j77))) mf_J6_bitCount_0f7a4 w_1028 rfl rfl (Nat.le_of_ble_eq_true rfl) ⟨(Nat.le_of_ble_eq_true rfl), (Nat.le_of_ble_eq_true rfl)⟩ ⟨(Nat.le_of_ble_eq_true rfl), (Nat.le_of_ble_eq_true rfl)⟩ dX7_note_56 rfl (fun r86 w87 h85 => ?_)
        obtain ⟨hW88, x89⟩ := h85
        refine x_ws hW88 ?_
        refine x_isub C (v := (r81 - r86)) dX7_note_59 rfl rfl ?_
        refine x_any (fun v90 => ?_)
        refine x_istore_n C (lv' := [(2, .int v90), (0, .ref (a 103)), (1, .int p0)]) dX7_note_60 rfl (by decide) rfl rfl ?_
        refine x_aload_n C dX7_note_61 rfl 1 rfl rfl ?_
        refine x_iload_n C dX7_note_62 rfl 0 rfl rfl ?_
        refine x_if_lt C (tgt := 78) dX7_note_63 (by decide) rfl (fun c91 => ?_) (fun c91 => ?_)
        · skip
          refine x_iload_n C dX7_note_78 rfl 2 rfl rfl ?_
          refine x_goto C (tgt := 86) dX7_note_79 (by decide) ?_
          obtain ⟨w92, hw93⟩ : ∃ w : va_W, w = List.set w71 103 (ob (a 103) 6 [.int v7, .int (nI j67), .int p0, .ref (a 104), .int (nI n5)]) := ⟨_, rfl⟩
          refine x_put C (ci := 6) (k := 2) (ty := .int) 103 k74 rfl in_X7 tyX7 tyX7_ok nmX7 (by decide) w_370 rfl rfl rfl rfl (Nat.le_of_ble_eq_true rfl) hw93.symm dX7_note_86 rfl ?_
          have hW94 : WX (okX E a) w92 := by rw [hw93]; exact hW73.set (k := 103) rfl ⟨v7, (nI j67), p0, n5, by omega, rfl⟩
          have k95 : w92[103]? = some (ob (a 103) 6 [.int v7, .int (nI j67), .int p0, .ref (a 104), .int (nI n5)]) := by rw [hw93]; exact set_eq k74
          have kp96 := keeps_set kp75 hw93 (by first | exact rfl | decide | omega | (dsimp only; omega))
          exact x_vret C hr hlk dX7_note_89 ⟨hW94, kp96⟩
        · skip
          obtain ⟨j97, hj98, ej99⟩ := nI_of c91
          subst ej99
          refine x_iload_n C dX7_note_66 rfl 0 rfl rfl ?_
          refine x_if_ne C (tgt := 82) dX7_note_67 (by decide) rfl (fun c100 => ?_) (fun c100 => ?_)
          · skip
            have nf101 : ¬ j97 = 0 := fun q => c100 (congrArg nI q)
            refine x_aload_n C dX7_note_82 rfl 1 rfl rfl ?_
            refine x_get C (ci := 6) (k := 2) 103 k74 rfl in_X7 (by decide) w_370 rfl dX7_note_83 rfl ?_
            obtain ⟨w102, hw103⟩ : ∃ w : va_W, w = List.set w71 103 (ob (a 103) 6 [.int v7, .int (nI j67), .int (nI j77), .ref (a 104), .int (nI n5)]) := ⟨_, rfl⟩
            refine x_put C (ci := 6) (k := 2) (ty := .int) 103 k74 rfl in_X7 tyX7 tyX7_ok nmX7 (by decide) w_370 rfl rfl rfl rfl (Nat.le_of_ble_eq_true rfl) hw103.symm dX7_note_86 rfl ?_
            have hW104 : WX (okX E a) w102 := by rw [hw103]; exact hW73.set (k := 103) rfl ⟨v7, (nI j67), (nI j77), n5, by omega, rfl⟩
            have k105 : w102[103]? = some (ob (a 103) 6 [.int v7, .int (nI j67), .int (nI j77), .ref (a 104), .int (nI n5)]) := by rw [hw103]; exact set_eq k74
            have kp106 := keeps_set kp75 hw103 (by first | exact rfl | decide | omega | (dsimp only; omega))
            exact x_vret C hr hlk dX7_note_89 ⟨hW104, kp106⟩
          · skip
            have nf107 : j97 = 0 := (nI_eq (by omega) (by omega)).mp c100
            refine x_iload_n C dX7_note_70 rfl 2 rfl rfl ?_
            refine x_aload_n C dX7_note_71 rfl 1 rfl rfl ?_
            refine x_get C (ci := 6) (k := 2) 103 k74 rfl in_X7 (by decide) w_370 rfl dX7_note_72 rfl ?_
            refine x_icmp_ge C (tgt := 82) dX7_note_75 (by decide) rfl (fun c108 => ?_) (fun c108 => ?_)
            · skip
              refine x_aload_n C dX7_note_82 rfl 1 rfl rfl ?_
              refine x_get C (ci := 6) (k := 2) 103 k74 rfl in_X7 (by decide) w_370 rfl dX7_note_83 rfl ?_
              obtain ⟨w109, hw110⟩ : ∃ w : va_W, w = List.set w71 103 (ob (a 103) 6 [.int v7, .int (nI j67), .int (nI j77), .ref (a 104), .int (nI n5)]) := ⟨_, rfl⟩
              refine x_put C (ci := 6) (k := 2) (ty := .int) 103 k74 rfl in_X7 tyX7 tyX7_ok nmX7 (by decide) w_370 rfl rfl rfl rfl (Nat.le_of_ble_eq_true rfl) hw110.symm dX7_note_86 rfl ?_
              have hW111 : WX (okX E a) w109 := by rw [hw110]; exact hW73.set (k := 103) rfl ⟨v7, (nI j67), (nI j77), n5, by omega, rfl⟩
              have k112 : w109[103]? = some (ob (a 103) 6 [.int v7, .int (nI j67), .int (nI j77), .ref (a 104), .int (nI n5)]) := by rw [hw110]; exact set_eq k74
              have kp113 := keeps_set kp75 hw110 (by first | exact rfl | decide | omega | (dsimp only; omega))
              exact x_vret C hr hlk dX7_note_89 ⟨hW111, kp113⟩
            · skip
              refine x_iload_n C dX7_note_78 rfl 2 rfl rfl ?_
              refine x_goto C (tgt := 86) dX7_note_79 (by decide) ?_
              obtain ⟨w114, hw115⟩ : ∃ w : va_W, w = List.set w71 103 (ob (a 103) 6 [.int v7, .int (nI j67), .int p0, .ref (a 104), .int (nI n5)]) := ⟨_, rfl⟩
              refine x_put C (ci := 6) (k := 2) (ty := .int) 103 k74 rfl in_X7 tyX7 tyX7_ok nmX7 (by decide) w_370 rfl rfl rfl rfl (Nat.le_of_ble_eq_true rfl) hw115.symm dX7_note_86 rfl ?_
              have hW116 : WX (okX E a) w114 := by rw [hw115]; exact hW73.set (k := 103) rfl ⟨v7, (nI j67), p0, n5, by omega, rfl⟩
              have k117 : w114[103]? = some (ob (a 103) 6 [.int v7, .int (nI j67), .int p0, .ref (a 104), .int (nI n5)]) := by rw [hw115]; exact set_eq k74
              have kp118 := keeps_set kp75 hw115 (by first | exact rfl | decide | omega | (dsimp only; omega))
              exact x_vret C hr hlk dX7_note_89 ⟨hW116, kp118⟩
      · skip
        refine x_iconst C (v := (-1)) dX7_note_44 (by decide) rfl ?_
        refine x_goto C (tgt := 60) dX7_note_45 (by decide) ?_
        refine x_istore_n C (lv' := [(2, .int (-1)), (0, .ref (a 103)), (1, .int p0)]) dX7_note_60 rfl (by decide) rfl rfl ?_
        refine x_aload_n C dX7_note_61 rfl 1 rfl rfl ?_
        refine x_iload_n C dX7_note_62 rfl 0 rfl rfl ?_
        refine x_if_lt C (tgt := 78) dX7_note_63 (by decide) rfl (fun _ => ?_) (fun h => absurd h (by decide))
        refine x_iload_n C dX7_note_78 rfl 2 rfl rfl ?_
        refine x_goto C (tgt := 86) dX7_note_79 (by decide) ?_
        obtain ⟨w119, hw120⟩ : ∃ w : va_W, w = List.set w71 103 (ob (a 103) 6 [.int v7, .int (nI j67), .int p0, .ref (a 104), .int (nI n5)]) := ⟨_, rfl⟩
        refine x_put C (ci := 6) (k := 2) (ty := .int) 103 k74 rfl in_X7 tyX7 tyX7_ok nmX7 (by decide) w_370 rfl rfl rfl rfl (Nat.le_of_ble_eq_true rfl) hw120.symm dX7_note_86 rfl ?_
        have hW121 : WX (okX E a) w119 := by rw [hw120]; exact hW73.set (k := 103) rfl ⟨v7, (nI j67), p0, n5, by omega, rfl⟩
        have k122 : w119[103]? = some (ob (a 103) 6 [.int v7, .int (nI j67), .int p0, .ref (a 104), .int (nI n5)]) := by rw [hw120]; exact set_eq k74
        have kp123 := keeps_set kp75 hw120 (by first | exact rfl | decide | omega | (dsimp only; omega))
        exact x_vret C hr hlk dX7_note_89 ⟨hW121, kp123⟩
    · skip
      refine x_iload_n C dX7_note_26 rfl 1 rfl rfl ?_
      refine x_goto C (tgt := 34) dX7_note_27 (by decide) ?_
      obtain ⟨w124, hw125⟩ : ∃ w : va_W, w = List.set w8 103 (ob (a 103) 6 [.int v7, .int p0, .int v4, .ref (a 104), .int (nI n5)]) := ⟨_, rfl⟩
      refine x_put C (ci := 6) (k := 1) (ty := .int) 103 k11 rfl in_X7 tyX7 tyX7_ok nmX7 (by decide) w_368 rfl rfl rfl rfl (Nat.le_of_ble_eq_true rfl) hw125.symm dX7_note_34 rfl ?_
      have hW126 : WX (okX E a) w124 := by rw [hw125]; exact hW10.set (k := 103) rfl ⟨v7, p0, v4, n5, by omega, rfl⟩
      have k127 : w124[103]? = some (ob (a 103) 6 [.int v7, .int p0, .int v4, .ref (a 104), .int (nI n5)]) := by rw [hw125]; exact set_eq k11
      have kp128 := keeps_set kp12 hw125 (by first | exact rfl | decide | omega | (dsimp only; omega))
      refine x_aload_n C dX7_note_37 rfl 0 rfl rfl ?_
      refine x_get C (ci := 6) (k := 2) 103 k127 rfl in_X7 (by decide) w_370 rfl dX7_note_38 rfl ?_
      refine x_if_ge C (tgt := 48) dX7_note_41 (by decide) rfl (fun c129 => ?_) (fun c129 => ?_)
      · skip
        obtain ⟨j130, hj131, ej132⟩ := nI_of (Int32.not_lt.mpr c129)
        subst ej132
        refine x_iload_n C dX7_note_48 rfl 1 rfl rfl ?_
        refine x_si C (As := [.int p0]) (rest := []) (c_bitCount E l a w124 hW126 p0) mf_J6_bitCount_0f7a4 w_1028 rfl rfl (Nat.le_of_ble_eq_true rfl) ⟨(Nat.le_of_ble_eq_true rfl), (Nat.le_of_ble_eq_true rfl)⟩ ⟨(Nat.le_of_ble_eq_true rfl), (Nat.le_of_ble_eq_true rfl)⟩ dX7_note_49 rfl (fun r134 w135 h133 => ?_)
        obtain ⟨hW136, x137⟩ := h133
        refine x_ws hW136 ?_
        refine x_aload_n C dX7_note_52 rfl 0 rfl rfl ?_
        refine x_get C (ci := 6) (k := 2) 103 k127 rfl in_X7 (by decide) w_370 rfl dX7_note_53 rfl ?_
        refine x_si C (As := [.int (nI j130)]) (rest := [.int r134]) (c_bitCount E l a w124 hW126 ((nI j130))) mf_J6_bitCount_0f7a4 w_1028 rfl rfl (Nat.le_of_ble_eq_true rfl) ⟨(Nat.le_of_ble_eq_true rfl), (Nat.le_of_ble_eq_true rfl)⟩ ⟨(Nat.le_of_ble_eq_true rfl), (Nat.le_of_ble_eq_true rfl)⟩ dX7_note_56 rfl (fun r139 w140 h138 => ?_)
        obtain ⟨hW141, x142⟩ := h138
        refine x_ws hW141 ?_
        refine x_isub C (v := (r134 - r139)) dX7_note_59 rfl rfl ?_
        refine x_any (fun v143 => ?_)
        refine x_istore_n C (lv' := [(2, .int v143), (0, .ref (a 103)), (1, .int p0)]) dX7_note_60 rfl (by decide) rfl rfl ?_
        refine x_aload_n C dX7_note_61 rfl 1 rfl rfl ?_
        refine x_iload_n C dX7_note_62 rfl 0 rfl rfl ?_
        refine x_if_lt C (tgt := 78) dX7_note_63 (by decide) rfl (fun c144 => ?_) (fun c144 => ?_)
        · skip
          refine x_iload_n C dX7_note_78 rfl 2 rfl rfl ?_
          refine x_goto C (tgt := 86) dX7_note_79 (by decide) ?_
          obtain ⟨w145, hw146⟩ : ∃ w : va_W, w = List.set w124 103 (ob (a 103) 6 [.int v7, .int p0, .int p0, .ref (a 104), .int (nI n5)]) := ⟨_, rfl⟩
          refine x_put C (ci := 6) (k := 2) (ty := .int) 103 k127 rfl in_X7 tyX7 tyX7_ok nmX7 (by decide) w_370 rfl rfl rfl rfl (Nat.le_of_ble_eq_true rfl) hw146.symm dX7_note_86 rfl ?_
          have hW147 : WX (okX E a) w145 := by rw [hw146]; exact hW126.set (k := 103) rfl ⟨v7, p0, p0, n5, by omega, rfl⟩
          have k148 : w145[103]? = some (ob (a 103) 6 [.int v7, .int p0, .int p0, .ref (a 104), .int (nI n5)]) := by rw [hw146]; exact set_eq k127
          have kp149 := keeps_set kp128 hw146 (by first | exact rfl | decide | omega | (dsimp only; omega))
          exact x_vret C hr hlk dX7_note_89 ⟨hW147, kp149⟩
        · skip
          obtain ⟨j150, hj151, ej152⟩ := nI_of c144
          subst ej152
          refine x_iload_n C dX7_note_66 rfl 0 rfl rfl ?_
          refine x_if_ne C (tgt := 82) dX7_note_67 (by decide) rfl (fun c153 => ?_) (fun c153 => ?_)
          · skip
            have nf154 : ¬ j150 = 0 := fun q => c153 (congrArg nI q)
            refine x_aload_n C dX7_note_82 rfl 1 rfl rfl ?_
            refine x_get C (ci := 6) (k := 2) 103 k127 rfl in_X7 (by decide) w_370 rfl dX7_note_83 rfl ?_
            obtain ⟨w155, hw156⟩ : ∃ w : va_W, w = List.set w124 103 (ob (a 103) 6 [.int v7, .int p0, .int (nI j130), .ref (a 104), .int (nI n5)]) := ⟨_, rfl⟩
            refine x_put C (ci := 6) (k := 2) (ty := .int) 103 k127 rfl in_X7 tyX7 tyX7_ok nmX7 (by decide) w_370 rfl rfl rfl rfl (Nat.le_of_ble_eq_true rfl) hw156.symm dX7_note_86 rfl ?_
            have hW157 : WX (okX E a) w155 := by rw [hw156]; exact hW126.set (k := 103) rfl ⟨v7, p0, (nI j130), n5, by omega, rfl⟩
            have k158 : w155[103]? = some (ob (a 103) 6 [.int v7, .int p0, .int (nI j130), .ref (a 104), .int (nI n5)]) := by rw [hw156]; exact set_eq k127
            have kp159 := keeps_set kp128 hw156 (by first | exact rfl | decide | omega | (dsimp only; omega))
            exact x_vret C hr hlk dX7_note_89 ⟨hW157, kp159⟩
          · skip
            have nf160 : j150 = 0 := (nI_eq (by omega) (by omega)).mp c153
            refine x_iload_n C dX7_note_70 rfl 2 rfl rfl ?_
            refine x_aload_n C dX7_note_71 rfl 1 rfl rfl ?_
            refine x_get C (ci := 6) (k := 2) 103 k127 rfl in_X7 (by decide) w_370 rfl dX7_note_72 rfl ?_
            refine x_icmp_ge C (tgt := 82) dX7_note_75 (by decide) rfl (fun c161 => ?_) (fun c161 => ?_)
            · skip
              refine x_aload_n C dX7_note_82 rfl 1 rfl rfl ?_
              refine x_get C (ci := 6) (k := 2) 103 k127 rfl in_X7 (by decide) w_370 rfl dX7_note_83 rfl ?_
              obtain ⟨w162, hw163⟩ : ∃ w : va_W, w = List.set w124 103 (ob (a 103) 6 [.int v7, .int p0, .int (nI j130), .ref (a 104), .int (nI n5)]) := ⟨_, rfl⟩
              refine x_put C (ci := 6) (k := 2) (ty := .int) 103 k127 rfl in_X7 tyX7 tyX7_ok nmX7 (by decide) w_370 rfl rfl rfl rfl (Nat.le_of_ble_eq_true rfl) hw163.symm dX7_note_86 rfl ?_
              have hW164 : WX (okX E a) w162 := by rw [hw163]; exact hW126.set (k := 103) rfl ⟨v7, p0, (nI j130), n5, by omega, rfl⟩
              have k165 : w162[103]? = some (ob (a 103) 6 [.int v7, .int p0, .int (nI j130), .ref (a 104), .int (nI n5)]) := by rw [hw163]; exact set_eq k127
              have kp166 := keeps_set kp128 hw163 (by first | exact rfl | decide | omega | (dsimp only; omega))
              exact x_vret C hr hlk dX7_note_89 ⟨hW164, kp166⟩
            · skip
              refine x_iload_n C dX7_note_78 rfl 2 rfl rfl ?_
              refine x_goto C (tgt := 86) dX7_note_79 (by decide) ?_
              obtain ⟨w167, hw168⟩ : ∃ w : va_W, w = List.set w124 103 (ob (a 103) 6 [.int v7, .int p0, .int p0, .ref (a 104), .int (nI n5)]) := ⟨_, rfl⟩
              refine x_put C (ci := 6) (k := 2) (ty := .int) 103 k127 rfl in_X7 tyX7 tyX7_ok nmX7 (by decide) w_370 rfl rfl rfl rfl (Nat.le_of_ble_eq_true rfl) hw168.symm dX7_note_86 rfl ?_
              have hW169 : WX (okX E a) w167 := by rw [hw168]; exact hW126.set (k := 103) rfl ⟨v7, p0, p0, n5, by omega, rfl⟩
              have k170 : w167[103]? = some (ob (a 103) 6 [.int v7, .int p0, .int p0, .ref (a 104), .int (nI n5)]) := by rw [hw168]; exact set_eq k127
              have kp171 := keeps_set kp128 hw168 (by first | exact rfl | decide | omega | (dsimp only; omega))
              exact x_vret C hr hlk dX7_note_89 ⟨hW169, kp171⟩
      · skip
        refine x_iconst C (v := (-1)) dX7_note_44 (by decide) rfl ?_
        refine x_goto C (tgt := 60) dX7_note_45 (by decide) ?_
        refine x_istore_n C (lv' := [(2, .int (-1)), (0, .ref (a 103)), (1, .int p0)]) dX7_note_60 rfl (by decide) rfl rfl ?_
        refine x_aload_n C dX7_note_61 rfl 1 rfl rfl ?_
        refine x_iload_n C dX7_note_62 rfl 0 rfl rfl ?_
        refine x_if_lt C (tgt := 78) dX7_note_63 (by decide) rfl (fun _ => ?_) (fun h => absurd h (by decide))
        refine x_iload_n C dX7_note_78 rfl 2 rfl rfl ?_
        refine x_goto C (tgt := 86) dX7_note_79 (by decide) ?_
        obtain ⟨w172, hw173⟩ : ∃ w : va_W, w = List.set w124 103 (ob (a 103) 6 [.int v7, .int p0, .int p0, .ref (a 104), .int (nI n5)]) := ⟨_, rfl⟩
        refine x_put C (ci := 6) (k := 2) (ty := .int) 103 k127 rfl in_X7 tyX7 tyX7_ok nmX7 (by decide) w_370 rfl rfl rfl rfl (Nat.le_of_ble_eq_true rfl) hw173.symm dX7_note_86 rfl ?_
        have hW174 : WX (okX E a) w172 := by rw [hw173]; exact hW126.set (k := 103) rfl ⟨v7, p0, p0, n5, by omega, rfl⟩
        have k175 : w172[103]? = some (ob (a 103) 6 [.int v7, .int p0, .int p0, .ref (a 104), .int (nI n5)]) := by rw [hw173]; exact set_eq k127
        have kp176 := keeps_set kp128 hw173 (by first | exact rfl | decide | omega | (dsimp only; omega))
        exact x_vret C hr hlk dX7_note_89 ⟨hW174, kp176⟩
theorem dX7_find_0 : decode cX7_find 0 = .ok (.aload_n 0, 1) := by decide +kernel
theorem dX7_find_1 : decode cX7_find 1 = .ok (.iconst 0, 1) := by decide +kernel
theorem dX7_find_2 : decode cX7_find 2 = .ok (.putfield 9, 3) := by decide +kernel
theorem dX7_find_5 : decode cX7_find 5 = .ok (.aload_n 0, 1) := by decide +kernel
theorem dX7_find_6 : decode cX7_find 6 = .ok (.bipush (-2), 2) := by decide +kernel
theorem dX7_find_8 : decode cX7_find 8 = .ok (.putfield 15, 3) := by decide +kernel
theorem dX7_find_11 : decode cX7_find 11 = .ok (.aload_n 0, 1) := by decide +kernel
theorem dX7_find_12 : decode cX7_find 12 = .ok (.bipush (-2), 2) := by decide +kernel
theorem dX7_find_14 : decode cX7_find 14 = .ok (.putfield 18, 3) := by decide +kernel
theorem dX7_find_17 : decode cX7_find 17 = .ok (.iconst 0, 1) := by decide +kernel
theorem dX7_find_18 : decode cX7_find 18 = .ok (.istore_n 2, 1) := by decide +kernel
theorem dX7_find_19 : decode cX7_find 19 = .ok (.iconst 0, 1) := by decide +kernel
theorem dX7_find_20 : decode cX7_find 20 = .ok (.istore_n 3, 1) := by decide +kernel
theorem dX7_find_21 : decode cX7_find 21 = .ok (.iconst 0, 1) := by decide +kernel
theorem dX7_find_22 : decode cX7_find 22 = .ok (.istore 4, 2) := by decide +kernel
theorem dX7_find_24 : decode cX7_find 24 = .ok (.iload 4, 2) := by decide +kernel
theorem dX7_find_26 : decode cX7_find 26 = .ok (.iconst 1, 1) := by decide +kernel
theorem dX7_find_27 : decode cX7_find 27 = .ok (.aload_n 0, 1) := by decide +kernel
theorem dX7_find_28 : decode cX7_find 28 = .ok (.getfield 25, 3) := by decide +kernel
theorem dX7_find_31 : decode cX7_find 31 = .ok (.ishl, 1) := by decide +kernel
theorem dX7_find_32 : decode cX7_find 32 = .ok (.if_icmp .ge 75, 3) := by decide +kernel
theorem dX7_find_35 : decode cX7_find 35 = .ok (.iload 4, 2) := by decide +kernel
theorem dX7_find_37 : decode cX7_find 37 = .ok (.ifCond .le 54, 3) := by decide +kernel
theorem dX7_find_40 : decode cX7_find 40 = .ok (.iload 4, 2) := by decide +kernel
theorem dX7_find_42 : decode cX7_find 42 = .ok (.iload 4, 2) := by decide +kernel
theorem dX7_find_44 : decode cX7_find 44 = .ok (.ineg, 1) := by decide +kernel
theorem dX7_find_45 : decode cX7_find 45 = .ok (.iand, 1) := by decide +kernel
theorem dX7_find_46 : decode cX7_find 46 = .ok (.iconst 1, 1) := by decide +kernel
theorem dX7_find_47 : decode cX7_find 47 = .ok (.isub, 1) := by decide +kernel
theorem dX7_find_48 : decode cX7_find 48 = .ok (.invokestatic 40, 3) := by decide +kernel
theorem dX7_find_51 : decode cX7_find 51 = .ok (.istore 5, 2) := by decide +kernel
theorem dX7_find_53 : decode cX7_find 53 = .ok (.iload_n 2, 1) := by decide +kernel
theorem dX7_find_54 : decode cX7_find 54 = .ok (.iconst 1, 1) := by decide +kernel
theorem dX7_find_55 : decode cX7_find 55 = .ok (.iload 5, 2) := by decide +kernel
theorem dX7_find_57 : decode cX7_find 57 = .ok (.ishl, 1) := by decide +kernel
theorem dX7_find_58 : decode cX7_find 58 = .ok (.ixor, 1) := by decide +kernel
theorem dX7_find_59 : decode cX7_find 59 = .ok (.istore_n 2, 1) := by decide +kernel
theorem dX7_find_60 : decode cX7_find 60 = .ok (.iload_n 3, 1) := by decide +kernel
theorem dX7_find_61 : decode cX7_find 61 = .ok (.iload_n 2, 1) := by decide +kernel
theorem dX7_find_62 : decode cX7_find 62 = .ok (.iload 5, 2) := by decide +kernel
theorem dX7_find_64 : decode cX7_find 64 = .ok (.ishr, 1) := by decide +kernel
theorem dX7_find_65 : decode cX7_find 65 = .ok (.iconst 1, 1) := by decide +kernel
theorem dX7_find_66 : decode cX7_find 66 = .ok (.iand, 1) := by decide +kernel
theorem dX7_find_67 : decode cX7_find 67 = .ok (.iconst 1, 1) := by decide +kernel
theorem dX7_find_68 : decode cX7_find 68 = .ok (.if_icmp .ne 13, 3) := by decide +kernel
theorem dX7_find_71 : decode cX7_find 71 = .ok (.aload_n 0, 1) := by decide +kernel
theorem dX7_find_72 : decode cX7_find 72 = .ok (.getfield 21, 3) := by decide +kernel
theorem dX7_find_75 : decode cX7_find 75 = .ok (.iload 5, 2) := by decide +kernel
theorem dX7_find_77 : decode cX7_find 77 = .ok (.iaload, 1) := by decide +kernel
theorem dX7_find_78 : decode cX7_find 78 = .ok (.goto 11, 3) := by decide +kernel
theorem dX7_find_81 : decode cX7_find 81 = .ok (.aload_n 0, 1) := by decide +kernel
theorem dX7_find_82 : decode cX7_find 82 = .ok (.getfield 21, 3) := by decide +kernel
theorem dX7_find_85 : decode cX7_find 85 = .ok (.iload 5, 2) := by decide +kernel
theorem dX7_find_87 : decode cX7_find 87 = .ok (.iaload, 1) := by decide +kernel
theorem dX7_find_88 : decode cX7_find 88 = .ok (.ineg, 1) := by decide +kernel
theorem dX7_find_89 : decode cX7_find 89 = .ok (.iadd, 1) := by decide +kernel
theorem dX7_find_90 : decode cX7_find 90 = .ok (.istore_n 3, 1) := by decide +kernel
theorem dX7_find_91 : decode cX7_find 91 = .ok (.iload_n 3, 1) := by decide +kernel
theorem dX7_find_92 : decode cX7_find 92 = .ok (.iload_n 1, 1) := by decide +kernel
theorem dX7_find_93 : decode cX7_find 93 = .ok (.if_icmp .ne 8, 3) := by decide +kernel
theorem dX7_find_96 : decode cX7_find 96 = .ok (.aload_n 0, 1) := by decide +kernel
theorem dX7_find_97 : decode cX7_find 97 = .ok (.iload_n 2, 1) := by decide +kernel
theorem dX7_find_98 : decode cX7_find 98 = .ok (.invokevirtual 45, 3) := by decide +kernel
theorem dX7_find_101 : decode cX7_find 101 = .ok (.iinc 4 1, 3) := by decide +kernel
theorem dX7_find_104 : decode cX7_find 104 = .ok (.goto (-80), 3) := by decide +kernel
theorem dX7_find_107 : decode cX7_find 107 = .ok (.return_, 1) := by decide +kernel
set_option maxRecDepth 20000 in
set_option maxHeartbeats 4000000 in
theorem c_find (E : xE) (l : Launch) (a : Nat → Nat) (ws : va_W) (hW : WX (okX E a) ws) (p0 : Int32) : xV E l yX7_find cX7_find 6 2 0 0 [.ref (a 103), .int p0] ws (fun w => WX (okX E a) w ∧ keeps ws w (fun q => 103 ≤ q ∧ q < 105)) := by
  refine xV_start (lv := [(0, .ref (a 103)), (1, .int p0)]) RX7 (by decide) rfl (Nat.le_of_ble_eq_true rfl) rfl (fun p e s m below meth c A C hr hlk hin => ?_)
  have kp0 : keeps ws ws (fun q => 103 ≤ q ∧ q < 105) := keeps_rf
  refine x_aload_n C dX7_find_0 rfl 0 rfl rfl ?_
  refine x_iconst C (v := 0) dX7_find_1 (by decide) rfl ?_
  obtain ⟨_, k1, v2, v3, v4, n5, bn6, rfl⟩ := hW 103 _ rfl
  obtain ⟨w7, hw8⟩ : ∃ w : va_W, w = List.set ws 103 (ob (a 103) 6 [.int 0, .int v3, .int v4, .ref (a 104), .int (nI n5)]) := ⟨_, rfl⟩
  refine x_put C (ci := 6) (k := 0) (ty := .int) 103 k1 rfl in_X7 tyX7 tyX7_ok nmX7 (by decide) w_366 rfl rfl rfl rfl (Nat.le_of_ble_eq_true rfl) hw8.symm dX7_find_2 rfl ?_
  have hW9 : WX (okX E a) w7 := by rw [hw8]; exact hW.set (k := 103) rfl ⟨(0 : Int32), v3, v4, n5, by omega, rfl⟩
  have k10 : w7[103]? = some (ob (a 103) 6 [.int 0, .int v3, .int v4, .ref (a 104), .int (nI n5)]) := by rw [hw8]; exact set_eq k1
  have kp11 := keeps_set kp0 hw8 (by first | exact rfl | decide | omega | (dsimp only; omega))
  refine x_aload_n C dX7_find_5 rfl 0 rfl rfl ?_
  refine x_bipush C (v := (-2)) dX7_find_6 (by decide) rfl ?_
  obtain ⟨w12, hw13⟩ : ∃ w : va_W, w = List.set w7 103 (ob (a 103) 6 [.int 0, .int (-2), .int v4, .ref (a 104), .int (nI n5)]) := ⟨_, rfl⟩
  refine x_put C (ci := 6) (k := 1) (ty := .int) 103 k10 rfl in_X7 tyX7 tyX7_ok nmX7 (by decide) w_368 rfl rfl rfl rfl (Nat.le_of_ble_eq_true rfl) hw13.symm dX7_find_8 rfl ?_
  have hW14 : WX (okX E a) w12 := by rw [hw13]; exact hW9.set (k := 103) rfl ⟨(0 : Int32), ((-2) : Int32), v4, n5, by omega, rfl⟩
  have k15 : w12[103]? = some (ob (a 103) 6 [.int 0, .int (-2), .int v4, .ref (a 104), .int (nI n5)]) := by rw [hw13]; exact set_eq k10
  have kp16 := keeps_set kp11 hw13 (by first | exact rfl | decide | omega | (dsimp only; omega))
  refine x_aload_n C dX7_find_11 rfl 0 rfl rfl ?_
  refine x_bipush C (v := (-2)) dX7_find_12 (by decide) rfl ?_
  obtain ⟨w17, hw18⟩ : ∃ w : va_W, w = List.set w12 103 (ob (a 103) 6 [.int 0, .int (-2), .int (-2), .ref (a 104), .int (nI n5)]) := ⟨_, rfl⟩
  refine x_put C (ci := 6) (k := 2) (ty := .int) 103 k15 rfl in_X7 tyX7 tyX7_ok nmX7 (by decide) w_370 rfl rfl rfl rfl (Nat.le_of_ble_eq_true rfl) hw18.symm dX7_find_14 rfl ?_
  have hW19 : WX (okX E a) w17 := by rw [hw18]; exact hW14.set (k := 103) rfl ⟨(0 : Int32), ((-2) : Int32), ((-2) : Int32), n5, by omega, rfl⟩
  have k20 : w17[103]? = some (ob (a 103) 6 [.int 0, .int (-2), .int (-2), .ref (a 104), .int (nI n5)]) := by rw [hw18]; exact set_eq k15
  have kp21 := keeps_set kp16 hw18 (by first | exact rfl | decide | omega | (dsimp only; omega))
  refine x_iconst C (v := 0) dX7_find_17 (by decide) rfl ?_
  refine x_istore_n C (lv' := [(2, .int 0), (0, .ref (a 103)), (1, .int p0)]) dX7_find_18 rfl (by decide) rfl rfl ?_
  refine x_iconst C (v := 0) dX7_find_19 (by decide) rfl ?_
  refine x_istore_n C (lv' := [(3, .int 0), (2, .int 0), (0, .ref (a 103)), (1, .int p0)]) dX7_find_20 rfl (by decide) rfl rfl ?_
  refine x_iconst C (v := 0) dX7_find_21 (by decide) rfl ?_
  refine x_istore C (lv' := [(4, .int 0), (3, .int 0), (2, .int 0), (0, .ref (a 103)), (1, .int p0)]) dX7_find_22 (by decide) rfl rfl ?_
  have loop24 : ∀ (fu24 : Nat) (z24_2 : Int32) (z24_3 : Int32) (i : Nat) (wl24 : va_W), WX (okX E a) wl24 → 4096 - i < fu24 → i ≤ 4096 → keeps ws wl24 (fun q => 103 ≤ q ∧ q < 105) → X E p l e (xRm 2 0 0) s m ([.ref (a 103), .int p0] : List Value).toArray below meth c A 6 0 0 (MQ below (va_Qv (fun w => WX (okX E a) w ∧ keeps ws w (fun q => 103 ≤ q ∧ q < 105)) (xB E A) A) ([.ref (a 103), .int p0] : List Value).toArray s 0 0 A) wl24 24 [(0, .ref (a 103)), (1, .int p0), (2, .int z24_2), (3, .int z24_3), (4, .int (nI i))] [] := by
    intro fu24
    induction fu24 with
    | zero => intro z24_2 z24_3 i wl24 _ q; omega
    | succ fu24 ih24 =>
      intro z24_2 z24_3 i wl24 hWl24 me24 iv24_0 kq24
      refine x_iload C dX7_find_24 4 rfl rfl ?_
      refine x_iconst C (v := 1) dX7_find_26 (by decide) rfl ?_
      refine x_aload_n C dX7_find_27 rfl 0 rfl rfl ?_
      obtain ⟨_, k22, v23, v24, v25, n26, bn27, rfl⟩ := hWl24 103 _ rfl
      refine x_get C (ci := 6) (k := 4) 103 k22 rfl in_X7 (by decide) w_373 rfl dX7_find_28 rfl ?_
      obtain ⟨z28, hz29, ez30⟩ := shl_low (n := n26) (by omega)
      refine x_ishl C (v := (nI z28)) dX7_find_31 ez30 rfl ?_
      refine x_icmp_ge C (tgt := 107) dX7_find_32 (by decide) rfl (fun c31 => ?_) (fun c31 => ?_)
      · skip
        have nf32 := nI_le' (a := z28) (b := i) c31 (by omega) (by omega)
        exact x_vret C hr hlk dX7_find_107 ⟨hWl24, kq24⟩
      · skip
        have nf33 := nI_nle' (a := z28) (b := i) c31 (by omega) (by omega)
        refine x_iload C dX7_find_35 4 rfl rfl ?_
        refine x_if_le C (tgt := 91) dX7_find_37 (by decide) rfl (fun c34 => ?_) (fun c34 => ?_)
        · skip
          have nf35 := nI_le' (a := i) (b := 0) c34 (by omega) (by omega)
          refine x_iload_n C dX7_find_91 rfl 3 rfl rfl ?_
          refine x_iload_n C dX7_find_92 rfl 1 rfl rfl ?_
          refine x_icmp_ne C (tgt := 101) dX7_find_93 (by decide) rfl (fun c36 => ?_) (fun c36 => ?_)
          · skip
            refine x_iinc C (v := (nI (i + 1))) (lv' := [(4, .int (nI (i + 1))), (0, .ref (a 103)), (1, .int p0), (2, .int z24_2), (3, .int z24_3)]) dX7_find_101 4 rfl (nI_add i 1) (by decide) rfl rfl ?_
            refine x_goto C (tgt := 24) dX7_find_104 (by decide) ?_
            refine x_lv (lv1 := [(0, .ref (a 103)), (1, .int p0), (2, .int z24_2), (3, .int z24_3), (4, .int (nI (i + 1)))]) [1, 2, 3, 4, 0] rfl ?_
            exact ih24 z24_2 z24_3 (i + 1) wl24 hWl24 (by omega) (by omega) kq24
          · skip
            refine x_aload_n C dX7_find_96 rfl 0 rfl rfl ?_
            refine x_iload_n C dX7_find_97 rfl 2 rfl rfl ?_
            refine x_vv C (As := [.int z24_2]) (rest := []) (c_note E l a wl24 hWl24 z24_2) mf_X7_note w_1029 103 k22 rfl rfl rfl (Nat.le_of_ble_eq_true rfl) ⟨(Nat.le_of_ble_eq_true rfl), (Nat.le_of_ble_eq_true rfl)⟩ ⟨(Nat.le_of_ble_eq_true rfl), (Nat.le_of_ble_eq_true rfl)⟩ dX7_find_98 rfl (fun w39 h37 => ?_)
            obtain ⟨hW40, kq41⟩ := h37
            have kp42 := keeps_tr kq24 kq41 (fun q hq => by first | omega | (dsimp only at *; omega))
            refine x_iinc C (v := (nI (i + 1))) (lv' := [(4, .int (nI (i + 1))), (0, .ref (a 103)), (1, .int p0), (2, .int z24_2), (3, .int z24_3)]) dX7_find_101 4 rfl (nI_add i 1) (by decide) rfl rfl ?_
            refine x_goto C (tgt := 24) dX7_find_104 (by decide) ?_
            refine x_lv (lv1 := [(0, .ref (a 103)), (1, .int p0), (2, .int z24_2), (3, .int z24_3), (4, .int (nI (i + 1)))]) [1, 2, 3, 4, 0] rfl ?_
            exact ih24 z24_2 z24_3 (i + 1) w39 hW40 (by omega) (by omega) kp42
        · skip
          have nf43 := nI_nle' (a := i) (b := 0) c34 (by omega) (by omega)
          refine x_iload C dX7_find_40 4 rfl rfl ?_
          refine x_iload C dX7_find_42 4 rfl rfl ?_
          refine x_ineg C (v := (-(nI i))) dX7_find_44 rfl rfl ?_
          refine x_iand C (v := ((nI i) &&& (-(nI i)))) dX7_find_45 rfl rfl ?_
          refine x_iconst C (v := 1) dX7_find_46 (by decide) rfl ?_
          refine x_isub C (v := (((nI i) &&& (-(nI i))) - (1 : Int32))) dX7_find_47 rfl rfl ?_
          refine x_si C (As := [.int (((nI i) &&& (-(nI i))) - (1 : Int32))]) (rest := []) (c_bitCount E l a wl24 hWl24 ((((nI i) &&& (-(nI i))) - (1 : Int32)))) mf_J6_bitCount_0f7a4 w_1028 rfl rfl (Nat.le_of_ble_eq_true rfl) ⟨(Nat.le_of_ble_eq_true rfl), (Nat.le_of_ble_eq_true rfl)⟩ ⟨(Nat.le_of_ble_eq_true rfl), (Nat.le_of_ble_eq_true rfl)⟩ dX7_find_48 rfl (fun r45 w46 h44 => ?_)
          obtain ⟨hW47, x48⟩ := h44
          refine x_ws hW47 ?_
          obtain ⟨kk49, hk50, ek51⟩ := bc_low (i := i) (by omega) (by omega)
          refine x_top (x48.trans ek51) ?_
          refine x_istore C (lv' := [(5, .int (nI kk49)), (0, .ref (a 103)), (1, .int p0), (2, .int z24_2), (3, .int z24_3), (4, .int (nI i))]) dX7_find_51 (by decide) rfl rfl ?_
          refine x_iload_n C dX7_find_53 rfl 3 rfl rfl ?_
          refine x_iconst C (v := 1) dX7_find_54 (by decide) rfl ?_
          refine x_iload C dX7_find_55 0 rfl rfl ?_
          refine x_ishl C (v := ((1 : Int32) <<< ((nI kk49) &&& 31))) dX7_find_57 rfl rfl ?_
          refine x_any (fun v52 => ?_)
          refine x_ixor C (v := (z24_2 ^^^ v52)) dX7_find_58 rfl rfl ?_
          refine x_any (fun v53 => ?_)
          refine x_istore_n C (lv' := [(2, .int v53), (5, .int (nI kk49)), (0, .ref (a 103)), (1, .int p0), (3, .int z24_3), (4, .int (nI i))]) dX7_find_59 rfl (by decide) rfl rfl ?_
          refine x_iload_n C dX7_find_60 rfl 4 rfl rfl ?_
          refine x_iload_n C dX7_find_61 rfl 0 rfl rfl ?_
          refine x_iload C dX7_find_62 1 rfl rfl ?_
          refine x_ishr C (v := (v53 >>> ((nI kk49) &&& 31))) dX7_find_64 rfl rfl ?_
          refine x_any (fun v54 => ?_)
          refine x_iconst C (v := 1) dX7_find_65 (by decide) rfl ?_
          refine x_iand C (v := (v54 &&& (1 : Int32))) dX7_find_66 rfl rfl ?_
          refine x_any (fun v55 => ?_)
          refine x_iconst C (v := 1) dX7_find_67 (by decide) rfl ?_
          refine x_icmp_ne C (tgt := 81) dX7_find_68 (by decide) rfl (fun c56 => ?_) (fun c56 => ?_)
          · skip
            refine x_aload_n C dX7_find_81 rfl 2 rfl rfl ?_
            refine x_get C (ci := 6) (k := 3) 103 k22 rfl in_X7 (by decide) w_372 rfl dX7_find_82 rfl ?_
            refine x_iload C dX7_find_85 1 rfl rfl ?_
            obtain ⟨_, k57, f58, rfl⟩ := hWl24 104 _ rfl
            refine x_iald C (v := (f58 (nI kk49).toNatClampNeg)) 104 k57 (vp_in_nI (by omega) (by decide)) rfl dX7_find_87 rfl ?_
            refine x_any (fun v59 => ?_)
            refine x_ineg C dX7_find_88 rfl rfl ?_
            refine x_any (fun v60 => ?_)
            refine x_iadd C (v := (z24_3 + v60)) dX7_find_89 rfl rfl ?_
            refine x_any (fun v61 => ?_)
            refine x_istore_n C (lv' := [(3, .int v61), (2, .int v53), (5, .int (nI kk49)), (0, .ref (a 103)), (1, .int p0), (4, .int (nI i))]) dX7_find_90 rfl (by decide) rfl rfl ?_
            refine x_iload_n C dX7_find_91 rfl 0 rfl rfl ?_
            refine x_iload_n C dX7_find_92 rfl 4 rfl rfl ?_
            refine x_icmp_ne C (tgt := 101) dX7_find_93 (by decide) rfl (fun c62 => ?_) (fun c62 => ?_)
            · skip
              refine x_iinc C (v := (nI (i + 1))) (lv' := [(4, .int (nI (i + 1))), (3, .int v61), (2, .int v53), (5, .int (nI kk49)), (0, .ref (a 103)), (1, .int p0)]) dX7_find_101 5 rfl (nI_add i 1) (by decide) rfl rfl ?_
              refine x_goto C (tgt := 24) dX7_find_104 (by decide) ?_
              refine x_lv (lv1 := [(0, .ref (a 103)), (1, .int p0), (2, .int v53), (3, .int v61), (4, .int (nI (i + 1)))]) [4, 5, 2, 1, 0] rfl ?_
              exact ih24 v53 v61 (i + 1) wl24 hWl24 (by omega) (by omega) kq24
            · skip
              refine x_aload_n C dX7_find_96 rfl 3 rfl rfl ?_
              refine x_iload_n C dX7_find_97 rfl 1 rfl rfl ?_
              refine x_vv C (As := [.int v53]) (rest := []) (c_note E l a wl24 hWl24 v53) mf_X7_note w_1029 103 k22 rfl rfl rfl (Nat.le_of_ble_eq_true rfl) ⟨(Nat.le_of_ble_eq_true rfl), (Nat.le_of_ble_eq_true rfl)⟩ ⟨(Nat.le_of_ble_eq_true rfl), (Nat.le_of_ble_eq_true rfl)⟩ dX7_find_98 rfl (fun w65 h63 => ?_)
              obtain ⟨hW66, kq67⟩ := h63
              have kp68 := keeps_tr kq24 kq67 (fun q hq => by first | omega | (dsimp only at *; omega))
              refine x_iinc C (v := (nI (i + 1))) (lv' := [(4, .int (nI (i + 1))), (3, .int v61), (2, .int v53), (5, .int (nI kk49)), (0, .ref (a 103)), (1, .int p0)]) dX7_find_101 5 rfl (nI_add i 1) (by decide) rfl rfl ?_
              refine x_goto C (tgt := 24) dX7_find_104 (by decide) ?_
              refine x_lv (lv1 := [(0, .ref (a 103)), (1, .int p0), (2, .int v53), (3, .int v61), (4, .int (nI (i + 1)))]) [4, 5, 2, 1, 0] rfl ?_
              exact ih24 v53 v61 (i + 1) w65 hW66 (by omega) (by omega) kp68
          · skip
            refine x_aload_n C dX7_find_71 rfl 2 rfl rfl ?_
            refine x_get C (ci := 6) (k := 3) 103 k22 rfl in_X7 (by decide) w_372 rfl dX7_find_72 rfl ?_
            refine x_iload C dX7_find_75 1 rfl rfl ?_
            obtain ⟨_, k69, f70, rfl⟩ := hWl24 104 _ rfl
            refine x_iald C (v := (f70 (nI kk49).toNatClampNeg)) 104 k69 (vp_in_nI (by omega) (by decide)) rfl dX7_find_77 rfl ?_
            refine x_any (fun v71 => ?_)
            refine x_goto C (tgt := 89) dX7_find_78 (by decide) ?_
            refine x_iadd C (v := (z24_3 + v71)) dX7_find_89 rfl rfl ?_
            refine x_any (fun v72 => ?_)
            refine x_istore_n C (lv' := [(3, .int v72), (2, .int v53), (5, .int (nI kk49)), (0, .ref (a 103)), (1, .int p0), (4, .int (nI i))]) dX7_find_90 rfl (by decide) rfl rfl ?_
            refine x_iload_n C dX7_find_91 rfl 0 rfl rfl ?_
            refine x_iload_n C dX7_find_92 rfl 4 rfl rfl ?_
            refine x_icmp_ne C (tgt := 101) dX7_find_93 (by decide) rfl (fun c73 => ?_) (fun c73 => ?_)
            · skip
              refine x_iinc C (v := (nI (i + 1))) (lv' := [(4, .int (nI (i + 1))), (3, .int v72), (2, .int v53), (5, .int (nI kk49)), (0, .ref (a 103)), (1, .int p0)]) dX7_find_101 5 rfl (nI_add i 1) (by decide) rfl rfl ?_
              refine x_goto C (tgt := 24) dX7_find_104 (by decide) ?_
              refine x_lv (lv1 := [(0, .ref (a 103)), (1, .int p0), (2, .int v53), (3, .int v72), (4, .int (nI (i + 1)))]) [4, 5, 2, 1, 0] rfl ?_
              exact ih24 v53 v72 (i + 1) wl24 hWl24 (by omega) (by omega) kq24
            · skip
              refine x_aload_n C dX7_find_96 rfl 3 rfl rfl ?_
              refine x_iload_n C dX7_find_97 rfl 1 rfl rfl ?_
              refine x_vv C (As := [.int v53]) (rest := []) (c_note E l a wl24 hWl24 v53) mf_X7_note w_1029 103 k22 rfl rfl rfl (Nat.le_of_ble_eq_true rfl) ⟨(Nat.le_of_ble_eq_true rfl), (Nat.le_of_ble_eq_true rfl)⟩ ⟨(Nat.le_of_ble_eq_true rfl), (Nat.le_of_ble_eq_true rfl)⟩ dX7_find_98 rfl (fun w76 h74 => ?_)
              obtain ⟨hW77, kq78⟩ := h74
              have kp79 := keeps_tr kq24 kq78 (fun q hq => by first | omega | (dsimp only at *; omega))
              refine x_iinc C (v := (nI (i + 1))) (lv' := [(4, .int (nI (i + 1))), (3, .int v72), (2, .int v53), (5, .int (nI kk49)), (0, .ref (a 103)), (1, .int p0)]) dX7_find_101 5 rfl (nI_add i 1) (by decide) rfl rfl ?_
              refine x_goto C (tgt := 24) dX7_find_104 (by decide) ?_
              refine x_lv (lv1 := [(0, .ref (a 103)), (1, .int p0), (2, .int v53), (3, .int v72), (4, .int (nI (i + 1)))]) [4, 5, 2, 1, 0] rfl ?_
              exact ih24 v53 v72 (i + 1) w76 hW77 (by omega) (by omega) kp79
  refine x_lv (lv1 := [(0, .ref (a 103)), (1, .int p0), (2, .int 0), (3, .int 0), (4, .int 0)]) [3, 4, 2, 1, 0] rfl ?_
  exact loop24 _ (0 : Int32) (0 : Int32) 0 w17 hW19 (Nat.lt_succ_self _) (by omega) kp21
