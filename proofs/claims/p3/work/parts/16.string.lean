theorem sN_le (i : Nat) : sN i ≤ 11 := by
  match i with
  | 0 => decide
  | 1 => decide
  | i + 2 => simp [sN]
theorem dJ0_isLatin1_aae02_0 : decode cJ0_isLatin1_aae02 0 = .ok (.getstatic 38, 3) := by decide +kernel
theorem dJ0_isLatin1_aae02_3 : decode cJ0_isLatin1_aae02 3 = .ok (.ifCond .eq 14, 3) := by decide +kernel
theorem dJ0_isLatin1_aae02_6 : decode cJ0_isLatin1_aae02 6 = .ok (.aload_n 0, 1) := by decide +kernel
theorem dJ0_isLatin1_aae02_7 : decode cJ0_isLatin1_aae02 7 = .ok (.getfield 15, 3) := by decide +kernel
theorem dJ0_isLatin1_aae02_10 : decode cJ0_isLatin1_aae02 10 = .ok (.ifCond .ne 7, 3) := by decide +kernel
theorem dJ0_isLatin1_aae02_13 : decode cJ0_isLatin1_aae02 13 = .ok (.iconst 1, 1) := by decide +kernel
theorem dJ0_isLatin1_aae02_14 : decode cJ0_isLatin1_aae02 14 = .ok (.goto 4, 3) := by decide +kernel
theorem dJ0_isLatin1_aae02_18 : decode cJ0_isLatin1_aae02 18 = .ok (.ireturn, 1) := by decide +kernel
set_option maxRecDepth 20000 in
set_option maxHeartbeats 4000000 in
theorem c_isLatin1 (E : xE) (l : Launch) (a : Nat → Nat) (ws : va_W) (hW : WX (okX E a) ws) (i : Nat) (hi : i < 2) : xI E l yJ0_isLatin1_aae02 cJ0_isLatin1_aae02 1 (some .boolean) 0 [.ref (sK E i)] ws (fun r w => w = ws ∧ r = 1) := by
  refine xI_start (lv := [(0, .ref (sK E i))]) RJ0 (by decide) rfl (Nat.le_of_ble_eq_true rfl) rfl (fun p e s m below meth c A C hr hlk => ?_)
  have hsN := sN_le i
  refine x_gets C C.2.2.2.2.2.2.2.2.2.2.1 w_541 (fun _ h9 => h9) dJ0_isLatin1_aae02_0 rfl ?_
  refine x_if_eq C (tgt := 17) dJ0_isLatin1_aae02_3 (by decide) rfl (fun h => absurd h (by decide)) (fun _ => ?_)
  refine x_aload_n C dJ0_isLatin1_aae02_6 rfl 0 rfl rfl ?_
  refine x_sgf C (C.2.2.2.2.2.2.2.2.2.2.2.1.1 i hi).2.1 w_1690 (fun _ h9 => h9) dJ0_isLatin1_aae02_7 rfl ?_
  refine x_if_ne C (tgt := 17) dJ0_isLatin1_aae02_10 (by decide) rfl (fun h => absurd h (by decide)) (fun _ => ?_)
  refine x_iconst C (v := 1) dJ0_isLatin1_aae02_13 (by decide) rfl ?_
  refine x_goto C (tgt := 18) dJ0_isLatin1_aae02_14 (by decide) ?_
  exact x_zret C hr hlk rfl dJ0_isLatin1_aae02_18 ⟨rfl, rfl⟩
theorem dJ0_coder_7d493_0 : decode cJ0_coder_7d493 0 = .ok (.getstatic 38, 3) := by decide +kernel
theorem dJ0_coder_7d493_3 : decode cJ0_coder_7d493 3 = .ok (.ifCond .eq 10, 3) := by decide +kernel
theorem dJ0_coder_7d493_6 : decode cJ0_coder_7d493 6 = .ok (.aload_n 0, 1) := by decide +kernel
theorem dJ0_coder_7d493_7 : decode cJ0_coder_7d493 7 = .ok (.getfield 15, 3) := by decide +kernel
theorem dJ0_coder_7d493_10 : decode cJ0_coder_7d493 10 = .ok (.goto 4, 3) := by decide +kernel
theorem dJ0_coder_7d493_14 : decode cJ0_coder_7d493 14 = .ok (.ireturn, 1) := by decide +kernel
set_option maxRecDepth 20000 in
set_option maxHeartbeats 4000000 in
theorem c_coder (E : xE) (l : Launch) (a : Nat → Nat) (ws : va_W) (hW : WX (okX E a) ws) (i : Nat) (hi : i < 2) : xI E l yJ0_coder_7d493 cJ0_coder_7d493 1 (some .byte) 0 [.ref (sK E i)] ws (fun r w => w = ws ∧ r = 0) := by
  refine xI_start (lv := [(0, .ref (sK E i))]) RJ0 (by decide) rfl (Nat.le_of_ble_eq_true rfl) rfl (fun p e s m below meth c A C hr hlk => ?_)
  have hsN := sN_le i
  refine x_gets C C.2.2.2.2.2.2.2.2.2.2.1 w_541 (fun _ h9 => h9) dJ0_coder_7d493_0 rfl ?_
  refine x_if_eq C (tgt := 13) dJ0_coder_7d493_3 (by decide) rfl (fun h => absurd h (by decide)) (fun _ => ?_)
  refine x_aload_n C dJ0_coder_7d493_6 rfl 0 rfl rfl ?_
  refine x_sgf C (C.2.2.2.2.2.2.2.2.2.2.2.1.1 i hi).2.1 w_1690 (fun _ h9 => h9) dJ0_coder_7d493_7 rfl ?_
  refine x_goto C (tgt := 14) dJ0_coder_7d493_10 (by decide) ?_
  exact x_zret C hr hlk rfl dJ0_coder_7d493_14 ⟨rfl, rfl⟩
theorem dJ0_length_8abf5_0 : decode cJ0_length_8abf5 0 = .ok (.aload_n 0, 1) := by decide +kernel
theorem dJ0_length_8abf5_1 : decode cJ0_length_8abf5 1 = .ok (.getfield 9, 3) := by decide +kernel
theorem dJ0_length_8abf5_4 : decode cJ0_length_8abf5 4 = .ok (.arraylength, 1) := by decide +kernel
theorem dJ0_length_8abf5_5 : decode cJ0_length_8abf5 5 = .ok (.aload_n 0, 1) := by decide +kernel
theorem dJ0_length_8abf5_6 : decode cJ0_length_8abf5 6 = .ok (.invokevirtual 335, 3) := by decide +kernel
theorem dJ0_length_8abf5_9 : decode cJ0_length_8abf5 9 = .ok (.ishr, 1) := by decide +kernel
theorem dJ0_length_8abf5_10 : decode cJ0_length_8abf5 10 = .ok (.ireturn, 1) := by decide +kernel
set_option maxRecDepth 20000 in
set_option maxHeartbeats 4000000 in
theorem c_length (E : xE) (l : Launch) (a : Nat → Nat) (ws : va_W) (hW : WX (okX E a) ws) (i : Nat) (hi : i < 2) : xI E l yJ0_length_8abf5 cJ0_length_8abf5 1 (some .int) 1 [.ref (sK E i)] ws (fun r w => w = ws ∧ r = nI (sN i)) := by
  refine xI_start (lv := [(0, .ref (sK E i))]) RJ0 (by decide) rfl (Nat.le_of_ble_eq_true rfl) rfl (fun p e s m below meth c A C hr hlk => ?_)
  have hsN := sN_le i
  refine x_aload_n C dJ0_length_8abf5_0 rfl 0 rfl rfl ?_
  refine x_sgf C (C.2.2.2.2.2.2.2.2.2.2.2.1.1 i hi).2.2.1 w_1691 (fun _ h9 => h9) dJ0_length_8abf5_1 rfl ?_
  refine x_tlen C (N := sN i) (C.2.2.2.2.2.2.2.2.2.2.2.1.1 i hi).2.2.2 dJ0_length_8abf5_4 rfl ?_
  refine x_aload_n C dJ0_length_8abf5_5 rfl 0 rfl rfl ?_
  refine x_vs C (As := []) (rest := [.int (nI (sN i))]) hi (c_coder E l a ws hW i hi) (mf_str mf_J0_coder_7d493) w_547 rfl rfl (Nat.le_of_ble_eq_true rfl) ⟨(Nat.le_of_ble_eq_true rfl), (Nat.le_of_ble_eq_true rfl)⟩ ⟨(Nat.le_of_ble_eq_true rfl), (Nat.le_of_ble_eq_true rfl)⟩ dJ0_length_8abf5_6 rfl (fun r1 w2 h3 => ?_)
  obtain ⟨g5, e4⟩ := h3
  refine x_top e4 (x_ws g5 ?_)
  refine x_ishr C (v := nI (sN i)) dJ0_length_8abf5_9 (sb_shr0 _) rfl ?_
  exact x_zret C hr hlk rfl dJ0_length_8abf5_10 ⟨rfl, rfl⟩
theorem dJ1_canEncode_9a6ad_0 : decode cJ1_canEncode_9a6ad 0 = .ok (.iload_n 0, 1) := by decide +kernel
theorem dJ1_canEncode_9a6ad_1 : decode cJ1_canEncode_9a6ad 1 = .ok (.ifCond .lt 14, 3) := by decide +kernel
theorem dJ1_canEncode_9a6ad_4 : decode cJ1_canEncode_9a6ad 4 = .ok (.iload_n 0, 1) := by decide +kernel
theorem dJ1_canEncode_9a6ad_5 : decode cJ1_canEncode_9a6ad 5 = .ok (.sipush 255, 3) := by decide +kernel
theorem dJ1_canEncode_9a6ad_8 : decode cJ1_canEncode_9a6ad 8 = .ok (.if_icmp .gt 7, 3) := by decide +kernel
theorem dJ1_canEncode_9a6ad_11 : decode cJ1_canEncode_9a6ad 11 = .ok (.iconst 1, 1) := by decide +kernel
theorem dJ1_canEncode_9a6ad_12 : decode cJ1_canEncode_9a6ad 12 = .ok (.goto 4, 3) := by decide +kernel
theorem dJ1_canEncode_9a6ad_15 : decode cJ1_canEncode_9a6ad 15 = .ok (.iconst 0, 1) := by decide +kernel
theorem dJ1_canEncode_9a6ad_16 : decode cJ1_canEncode_9a6ad 16 = .ok (.ireturn, 1) := by decide +kernel
set_option maxRecDepth 20000 in
set_option maxHeartbeats 4000000 in
theorem c_canEncode (E : xE) (l : Launch) (a : Nat → Nat) (ws : va_W) (hW : WX (okX E a) ws) (ch : Int32) : xI E l yJ1_canEncode_9a6ad cJ1_canEncode_9a6ad 1 (some .boolean) 0 [.int ch] ws (fun r w => w = ws ∧ zb r) := by
  refine xI_start (lv := [(0, .int ch)]) RJ1 (by decide) rfl (Nat.le_of_ble_eq_true rfl) rfl (fun p e s m below meth c A C hr hlk => ?_)
  refine x_iload_n C dJ1_canEncode_9a6ad_0 rfl 0 rfl rfl ?_
  refine x_if_lt C (tgt := 15) dJ1_canEncode_9a6ad_1 (by decide) rfl (fun c1 => ?_) (fun c1 => ?_)
  · skip
    refine x_iconst C (v := 0) dJ1_canEncode_9a6ad_15 (by decide) rfl ?_
    exact x_zret C hr hlk rfl dJ1_canEncode_9a6ad_16 ⟨rfl, (Or.inl rfl)⟩
  · skip
    obtain ⟨j2, hj3, ej4⟩ := nI_of c1
    subst ej4
    refine x_iload_n C dJ1_canEncode_9a6ad_4 rfl 0 rfl rfl ?_
    refine x_sipush C (v := 255) dJ1_canEncode_9a6ad_5 (by decide) rfl ?_
    refine x_icmp_gt C (tgt := 15) dJ1_canEncode_9a6ad_8 (by decide) rfl (fun c5 => ?_) (fun c5 => ?_)
    · skip
      have nf6 := nI_lt' (a := 255) (b := j2) c5 (by omega) (by omega)
      refine x_iconst C (v := 0) dJ1_canEncode_9a6ad_15 (by decide) rfl ?_
      exact x_zret C hr hlk rfl dJ1_canEncode_9a6ad_16 ⟨rfl, (Or.inl rfl)⟩
    · skip
      have nf7 := nI_nlt' (a := 255) (b := j2) c5 (by omega) (by omega)
      refine x_iconst C (v := 1) dJ1_canEncode_9a6ad_11 (by decide) rfl ?_
      refine x_goto C (tgt := 16) dJ1_canEncode_9a6ad_12 (by decide) ?_
      exact x_zret C hr hlk rfl dJ1_canEncode_9a6ad_16 ⟨rfl, (Or.inr rfl)⟩
theorem dJ1_indexOfChar_4cfef_0 : decode cJ1_indexOfChar_4cfef 0 = .ok (.iload_n 1, 1) := by decide +kernel
theorem dJ1_indexOfChar_4cfef_1 : decode cJ1_indexOfChar_4cfef 1 = .ok (.i2b, 1) := by decide +kernel
theorem dJ1_indexOfChar_4cfef_2 : decode cJ1_indexOfChar_4cfef 2 = .ok (.istore 4, 2) := by decide +kernel
theorem dJ1_indexOfChar_4cfef_4 : decode cJ1_indexOfChar_4cfef 4 = .ok (.iload_n 2, 1) := by decide +kernel
theorem dJ1_indexOfChar_4cfef_5 : decode cJ1_indexOfChar_4cfef 5 = .ok (.istore 5, 2) := by decide +kernel
theorem dJ1_indexOfChar_4cfef_7 : decode cJ1_indexOfChar_4cfef 7 = .ok (.iload 5, 2) := by decide +kernel
theorem dJ1_indexOfChar_4cfef_9 : decode cJ1_indexOfChar_4cfef 9 = .ok (.iload_n 3, 1) := by decide +kernel
theorem dJ1_indexOfChar_4cfef_10 : decode cJ1_indexOfChar_4cfef 10 = .ok (.if_icmp .ge 21, 3) := by decide +kernel
theorem dJ1_indexOfChar_4cfef_13 : decode cJ1_indexOfChar_4cfef 13 = .ok (.aload_n 0, 1) := by decide +kernel
theorem dJ1_indexOfChar_4cfef_14 : decode cJ1_indexOfChar_4cfef 14 = .ok (.iload 5, 2) := by decide +kernel
theorem dJ1_indexOfChar_4cfef_16 : decode cJ1_indexOfChar_4cfef 16 = .ok (.baload, 1) := by decide +kernel
theorem dJ1_indexOfChar_4cfef_17 : decode cJ1_indexOfChar_4cfef 17 = .ok (.iload 4, 2) := by decide +kernel
theorem dJ1_indexOfChar_4cfef_19 : decode cJ1_indexOfChar_4cfef 19 = .ok (.if_icmp .ne 6, 3) := by decide +kernel
theorem dJ1_indexOfChar_4cfef_22 : decode cJ1_indexOfChar_4cfef 22 = .ok (.iload 5, 2) := by decide +kernel
theorem dJ1_indexOfChar_4cfef_24 : decode cJ1_indexOfChar_4cfef 24 = .ok (.ireturn, 1) := by decide +kernel
theorem dJ1_indexOfChar_4cfef_25 : decode cJ1_indexOfChar_4cfef 25 = .ok (.iinc 5 1, 3) := by decide +kernel
theorem dJ1_indexOfChar_4cfef_28 : decode cJ1_indexOfChar_4cfef 28 = .ok (.goto (-21), 3) := by decide +kernel
theorem dJ1_indexOfChar_4cfef_31 : decode cJ1_indexOfChar_4cfef 31 = .ok (.iconst (-1), 1) := by decide +kernel
theorem dJ1_indexOfChar_4cfef_32 : decode cJ1_indexOfChar_4cfef 32 = .ok (.ireturn, 1) := by decide +kernel
set_option maxRecDepth 20000 in
set_option maxHeartbeats 4000000 in
theorem c_indexOfChar (E : xE) (l : Launch) (a : Nat → Nat) (ws : va_W) (hW : WX (okX E a) ws) (ch : Int32) (fr : Nat) (to : Nat) (i : Nat) (hi : i < 2) (hto : to ≤ sN i) (hfr : fr ≤ to) : xI E l yJ1_indexOfChar_4cfef cJ1_indexOfChar_4cfef 6 (some .int) 0 [.ref (sV E i), .int ch, .int (nI fr), .int (nI to)] ws (fun r w => w = ws) := by
  refine xI_start (lv := [(0, .ref (sV E i)), (1, .int ch), (2, .int (nI fr)), (3, .int (nI to))]) RJ1 (by decide) rfl (Nat.le_of_ble_eq_true rfl) rfl (fun p e s m below meth c A C hr hlk => ?_)
  have hsN := sN_le i
  refine x_iload_n C dJ1_indexOfChar_4cfef_0 rfl 1 rfl rfl ?_
  refine x_i2b C dJ1_indexOfChar_4cfef_1 rfl rfl ?_
  refine x_any (fun v1 => ?_)
  refine x_istore C (lv' := [(4, .int v1), (0, .ref (sV E i)), (1, .int ch), (2, .int (nI fr)), (3, .int (nI to))]) dJ1_indexOfChar_4cfef_2 (by decide) rfl rfl ?_
  refine x_iload_n C dJ1_indexOfChar_4cfef_4 rfl 3 rfl rfl ?_
  refine x_istore C (lv' := [(5, .int (nI fr)), (4, .int v1), (0, .ref (sV E i)), (1, .int ch), (2, .int (nI fr)), (3, .int (nI to))]) dJ1_indexOfChar_4cfef_5 (by decide) rfl rfl ?_
  have loop7 : ∀ (fu7 : Nat) (k : Nat), True → to - k < fu7 → k ≤ to → X E p l e (xRm 0 0 0) s m ([.ref (sV E i), .int ch, .int (nI fr), .int (nI to)] : List Value).toArray below meth c A 6 0 0 (MQ below (va_Qi (fun r w => w = ws) (xB E A) A) ([.ref (sV E i), .int ch, .int (nI fr), .int (nI to)] : List Value).toArray s 0 0 A) ws 7 [(0, .ref (sV E i)), (1, .int ch), (2, .int (nI fr)), (3, .int (nI to)), (4, .int v1), (5, .int (nI k))] [] := by
    intro fu7
    induction fu7 with
    | zero => intro k _ q; omega
    | succ fu7 ih7 =>
      intro k _ me7 iv7_0
      refine x_iload C dJ1_indexOfChar_4cfef_7 5 rfl rfl ?_
      refine x_iload_n C dJ1_indexOfChar_4cfef_9 rfl 3 rfl rfl ?_
      refine x_icmp_ge C (tgt := 31) dJ1_indexOfChar_4cfef_10 (by decide) rfl (fun c2 => ?_) (fun c2 => ?_)
      · skip
        have nf3 := nI_le' (a := to) (b := k) c2 (by omega) (by omega)
        refine x_iconst C (v := (-1)) dJ1_indexOfChar_4cfef_31 (by decide) rfl ?_
        exact x_zret C hr hlk rfl dJ1_indexOfChar_4cfef_32 rfl
      · skip
        have nf4 := nI_nle' (a := to) (b := k) c2 (by omega) (by omega)
        refine x_aload_n C dJ1_indexOfChar_4cfef_13 rfl 0 rfl rfl ?_
        refine x_iload C dJ1_indexOfChar_4cfef_14 5 rfl rfl ?_
        refine x_tb C (N := sN i) (C.2.2.2.2.2.2.2.2.2.2.2.1.1 i hi).2.2.2 (vp_in_nI (by omega) (by omega)) dJ1_indexOfChar_4cfef_16 rfl ?_
        refine x_any (fun v5 => ?_)
        refine x_iload C dJ1_indexOfChar_4cfef_17 4 rfl rfl ?_
        refine x_icmp_ne C (tgt := 25) dJ1_indexOfChar_4cfef_19 (by decide) rfl (fun c6 => ?_) (fun c6 => ?_)
        · skip
          refine x_iinc C (v := (nI (k + 1))) (lv' := [(5, .int (nI (k + 1))), (0, .ref (sV E i)), (1, .int ch), (2, .int (nI fr)), (3, .int (nI to)), (4, .int v1)]) dJ1_indexOfChar_4cfef_25 5 rfl (nI_add k 1) (by decide) rfl rfl ?_
          refine x_goto C (tgt := 7) dJ1_indexOfChar_4cfef_28 (by decide) ?_
          refine x_lv (lv1 := [(0, .ref (sV E i)), (1, .int ch), (2, .int (nI fr)), (3, .int (nI to)), (4, .int v1), (5, .int (nI (k + 1)))]) [1, 2, 3, 4, 5, 0] rfl ?_
          exact ih7 (k + 1) trivial (by omega) (by omega)
        · skip
          refine x_iload C dJ1_indexOfChar_4cfef_22 5 rfl rfl ?_
          exact x_zret C hr hlk rfl dJ1_indexOfChar_4cfef_24 rfl
  refine x_lv (lv1 := [(0, .ref (sV E i)), (1, .int ch), (2, .int (nI fr)), (3, .int (nI to)), (4, .int v1), (5, .int (nI fr))]) [2, 3, 4, 5, 1, 0] rfl ?_
  exact loop7 _ fr trivial (Nat.lt_succ_self _) (by omega)
theorem dJ1_indexOf_4cfef_0 : decode cJ1_indexOf_4cfef 0 = .ok (.iload_n 1, 1) := by decide +kernel
theorem dJ1_indexOf_4cfef_1 : decode cJ1_indexOf_4cfef 1 = .ok (.invokestatic 88, 3) := by decide +kernel
theorem dJ1_indexOf_4cfef_4 : decode cJ1_indexOf_4cfef 4 = .ok (.ifCond .ne 5, 3) := by decide +kernel
theorem dJ1_indexOf_4cfef_7 : decode cJ1_indexOf_4cfef 7 = .ok (.iconst (-1), 1) := by decide +kernel
theorem dJ1_indexOf_4cfef_8 : decode cJ1_indexOf_4cfef 8 = .ok (.ireturn, 1) := by decide +kernel
theorem dJ1_indexOf_4cfef_9 : decode cJ1_indexOf_4cfef 9 = .ok (.iload_n 2, 1) := by decide +kernel
theorem dJ1_indexOf_4cfef_10 : decode cJ1_indexOf_4cfef 10 = .ok (.iconst 0, 1) := by decide +kernel
theorem dJ1_indexOf_4cfef_11 : decode cJ1_indexOf_4cfef 11 = .ok (.invokestatic 92, 3) := by decide +kernel
theorem dJ1_indexOf_4cfef_14 : decode cJ1_indexOf_4cfef 14 = .ok (.istore_n 2, 1) := by decide +kernel
theorem dJ1_indexOf_4cfef_15 : decode cJ1_indexOf_4cfef 15 = .ok (.iload_n 3, 1) := by decide +kernel
theorem dJ1_indexOf_4cfef_16 : decode cJ1_indexOf_4cfef 16 = .ok (.aload_n 0, 1) := by decide +kernel
theorem dJ1_indexOf_4cfef_17 : decode cJ1_indexOf_4cfef 17 = .ok (.arraylength, 1) := by decide +kernel
theorem dJ1_indexOf_4cfef_18 : decode cJ1_indexOf_4cfef 18 = .ok (.invokestatic 38, 3) := by decide +kernel
theorem dJ1_indexOf_4cfef_21 : decode cJ1_indexOf_4cfef 21 = .ok (.istore_n 3, 1) := by decide +kernel
theorem dJ1_indexOf_4cfef_22 : decode cJ1_indexOf_4cfef 22 = .ok (.iload_n 2, 1) := by decide +kernel
theorem dJ1_indexOf_4cfef_23 : decode cJ1_indexOf_4cfef 23 = .ok (.iload_n 3, 1) := by decide +kernel
theorem dJ1_indexOf_4cfef_24 : decode cJ1_indexOf_4cfef 24 = .ok (.if_icmp .lt 5, 3) := by decide +kernel
theorem dJ1_indexOf_4cfef_27 : decode cJ1_indexOf_4cfef 27 = .ok (.iconst (-1), 1) := by decide +kernel
theorem dJ1_indexOf_4cfef_28 : decode cJ1_indexOf_4cfef 28 = .ok (.ireturn, 1) := by decide +kernel
theorem dJ1_indexOf_4cfef_29 : decode cJ1_indexOf_4cfef 29 = .ok (.aload_n 0, 1) := by decide +kernel
theorem dJ1_indexOf_4cfef_30 : decode cJ1_indexOf_4cfef 30 = .ok (.iload_n 1, 1) := by decide +kernel
theorem dJ1_indexOf_4cfef_31 : decode cJ1_indexOf_4cfef 31 = .ok (.iload_n 2, 1) := by decide +kernel
theorem dJ1_indexOf_4cfef_32 : decode cJ1_indexOf_4cfef 32 = .ok (.iload_n 3, 1) := by decide +kernel
theorem dJ1_indexOf_4cfef_33 : decode cJ1_indexOf_4cfef 33 = .ok (.invokestatic 95, 3) := by decide +kernel
theorem dJ1_indexOf_4cfef_36 : decode cJ1_indexOf_4cfef 36 = .ok (.ireturn, 1) := by decide +kernel
set_option maxRecDepth 20000 in
set_option maxHeartbeats 4000000 in
theorem c_L1indexOf (E : xE) (l : Launch) (a : Nat → Nat) (ws : va_W) (hW : WX (okX E a) ws) (ch : Int32) (i : Nat) (hi : i < 2) : xI E l yJ1_indexOf_4cfef cJ1_indexOf_4cfef 4 (some .int) 2 [.ref (sV E i), .int ch, .int 0, .int (nI (sN i))] ws (fun r w => w = ws) := by
  refine xI_start (lv := [(0, .ref (sV E i)), (1, .int ch), (2, .int 0), (3, .int (nI (sN i)))]) RJ1 (by decide) rfl (Nat.le_of_ble_eq_true rfl) rfl (fun p e s m below meth c A C hr hlk => ?_)
  have hsN := sN_le i
  refine x_iload_n C dJ1_indexOf_4cfef_0 rfl 1 rfl rfl ?_
  refine x_si C (As := [.int ch]) (rest := []) (c_canEncode E l a ws hW ch) mf_J1_canEncode_9a6ad w_554 rfl rfl (Nat.le_of_ble_eq_true rfl) ⟨(Nat.le_of_ble_eq_true rfl), (Nat.le_of_ble_eq_true rfl)⟩ ⟨(Nat.le_of_ble_eq_true rfl), (Nat.le_of_ble_eq_true rfl)⟩ dJ1_indexOf_4cfef_1 rfl (fun r2 w3 h1 => ?_)
  obtain ⟨hW4, zb5⟩ := h1
  refine x_ws hW4 ?_
  refine x_if_ne C (tgt := 9) dJ1_indexOf_4cfef_4 (by decide) rfl (fun c6 => ?_) (fun c6 => ?_)
  · skip
    refine x_iload_n C dJ1_indexOf_4cfef_9 rfl 2 rfl rfl ?_
    refine x_iconst C (v := 0) dJ1_indexOf_4cfef_10 (by decide) rfl ?_
    refine x_mmax C (v := (if (0 : Int32) < (0 : Int32) then (0 : Int32) else (0 : Int32))) w_557 w_558 w_16 w_559 (Nat.le_of_ble_eq_true rfl) (Nat.le_of_ble_eq_true rfl) (Nat.le_of_ble_eq_true rfl) (Nat.le_of_ble_eq_true rfl) rfl dJ1_indexOf_4cfef_11 rfl ?_
    refine x_top (v := 0) (by decide) ?_
    refine x_istore_n C (lv' := [(2, .int 0), (0, .ref (sV E i)), (1, .int ch), (3, .int (nI (sN i)))]) dJ1_indexOf_4cfef_14 rfl (by decide) rfl rfl ?_
    refine x_iload_n C dJ1_indexOf_4cfef_15 rfl 3 rfl rfl ?_
    refine x_aload_n C dJ1_indexOf_4cfef_16 rfl 1 rfl rfl ?_
    refine x_tlen C (N := sN i) (C.2.2.2.2.2.2.2.2.2.2.2.1.1 i hi).2.2.2 dJ1_indexOf_4cfef_17 rfl ?_
    refine x_mmin C (v := (if (nI (sN i)) < (nI (sN i)) then (nI (sN i)) else (nI (sN i)))) w_560 w_561 w_16 w_562 (Nat.le_of_ble_eq_true rfl) (Nat.le_of_ble_eq_true rfl) (Nat.le_of_ble_eq_true rfl) (Nat.le_of_ble_eq_true rfl) rfl dJ1_indexOf_4cfef_18 rfl ?_
    refine x_top (v := nI (sN i)) (by simp) ?_
    refine x_istore_n C (lv' := [(3, .int (nI (sN i))), (2, .int 0), (0, .ref (sV E i)), (1, .int ch)]) dJ1_indexOf_4cfef_21 rfl (by decide) rfl rfl ?_
    refine x_iload_n C dJ1_indexOf_4cfef_22 rfl 1 rfl rfl ?_
    refine x_iload_n C dJ1_indexOf_4cfef_23 rfl 0 rfl rfl ?_
    refine x_icmp_lt C (tgt := 29) dJ1_indexOf_4cfef_24 (by decide) rfl (fun c7 => ?_) (fun c7 => ?_)
    · skip
      have nf8 := nI_lt' (a := 0) (b := (sN i)) c7 (by omega) (by omega)
      refine x_aload_n C dJ1_indexOf_4cfef_29 rfl 2 rfl rfl ?_
      refine x_iload_n C dJ1_indexOf_4cfef_30 rfl 3 rfl rfl ?_
      refine x_iload_n C dJ1_indexOf_4cfef_31 rfl 1 rfl rfl ?_
      refine x_iload_n C dJ1_indexOf_4cfef_32 rfl 0 rfl rfl ?_
      refine x_si C (As := [.ref (sV E i), .int ch, .int 0, .int (nI (sN i))]) (rest := []) (c_indexOfChar E l a ws hW ch 0 (sN i) i hi (by omega) (by omega)) mf_J1_indexOfChar_4cfef w_563 rfl rfl (Nat.le_of_ble_eq_true rfl) ⟨(Nat.le_of_ble_eq_true rfl), (Nat.le_of_ble_eq_true rfl)⟩ ⟨(Nat.le_of_ble_eq_true rfl), (Nat.le_of_ble_eq_true rfl)⟩ dJ1_indexOf_4cfef_33 rfl (fun r10 w11 h9 => ?_)
      have hW12 := h9
      refine x_ws hW12 ?_
      exact x_zret C hr hlk rfl dJ1_indexOf_4cfef_36 rfl
    · skip
      have nf13 := nI_nlt' (a := 0) (b := (sN i)) c7 (by omega) (by omega)
      refine x_iconst C (v := (-1)) dJ1_indexOf_4cfef_27 (by decide) rfl ?_
      exact x_zret C hr hlk rfl dJ1_indexOf_4cfef_28 rfl
  · skip
    refine x_iconst C (v := (-1)) dJ1_indexOf_4cfef_7 (by decide) rfl ?_
    exact x_zret C hr hlk rfl dJ1_indexOf_4cfef_8 rfl
theorem dJ0_indexOf_7cf53_0 : decode cJ0_indexOf_7cf53 0 = .ok (.aload_n 0, 1) := by decide +kernel
theorem dJ0_indexOf_7cf53_1 : decode cJ0_indexOf_7cf53 1 = .ok (.invokevirtual 492, 3) := by decide +kernel
theorem dJ0_indexOf_7cf53_4 : decode cJ0_indexOf_7cf53 4 = .ok (.ifCond .eq 19, 3) := by decide +kernel
theorem dJ0_indexOf_7cf53_7 : decode cJ0_indexOf_7cf53 7 = .ok (.aload_n 0, 1) := by decide +kernel
theorem dJ0_indexOf_7cf53_8 : decode cJ0_indexOf_7cf53 8 = .ok (.getfield 9, 3) := by decide +kernel
theorem dJ0_indexOf_7cf53_11 : decode cJ0_indexOf_7cf53 11 = .ok (.iload_n 1, 1) := by decide +kernel
theorem dJ0_indexOf_7cf53_12 : decode cJ0_indexOf_7cf53 12 = .ok (.iload_n 2, 1) := by decide +kernel
theorem dJ0_indexOf_7cf53_13 : decode cJ0_indexOf_7cf53 13 = .ok (.aload_n 0, 1) := by decide +kernel
theorem dJ0_indexOf_7cf53_14 : decode cJ0_indexOf_7cf53 14 = .ok (.invokevirtual 505, 3) := by decide +kernel
theorem dJ0_indexOf_7cf53_17 : decode cJ0_indexOf_7cf53 17 = .ok (.invokestatic 637, 3) := by decide +kernel
theorem dJ0_indexOf_7cf53_20 : decode cJ0_indexOf_7cf53 20 = .ok (.goto 16, 3) := by decide +kernel
theorem dJ0_indexOf_7cf53_36 : decode cJ0_indexOf_7cf53 36 = .ok (.ireturn, 1) := by decide +kernel
set_option maxRecDepth 20000 in
set_option maxHeartbeats 4000000 in
theorem c_indexOf2 (E : xE) (l : Launch) (a : Nat → Nat) (ws : va_W) (hW : WX (okX E a) ws) (ch : Int32) (i : Nat) (hi : i < 2) : xI E l yJ0_indexOf_7cf53 cJ0_indexOf_7cf53 3 (some .int) 3 [.ref (sK E i), .int ch, .int 0] ws (fun r w => w = ws) := by
  refine xI_start (lv := [(0, .ref (sK E i)), (1, .int ch), (2, .int 0)]) RJ0 (by decide) rfl (Nat.le_of_ble_eq_true rfl) rfl (fun p e s m below meth c A C hr hlk => ?_)
  have hsN := sN_le i
  refine x_aload_n C dJ0_indexOf_7cf53_0 rfl 0 rfl rfl ?_
  refine x_vs C (As := []) (rest := []) hi (c_isLatin1 E l a ws hW i hi) (mf_str mf_J0_isLatin1_aae02) w_537 rfl rfl (Nat.le_of_ble_eq_true rfl) ⟨(Nat.le_of_ble_eq_true rfl), (Nat.le_of_ble_eq_true rfl)⟩ ⟨(Nat.le_of_ble_eq_true rfl), (Nat.le_of_ble_eq_true rfl)⟩ dJ0_indexOf_7cf53_1 rfl (fun r1 w2 h3 => ?_)
  obtain ⟨g5, e4⟩ := h3
  refine x_top e4 (x_ws g5 ?_)
  refine x_if_eq C (tgt := 23) dJ0_indexOf_7cf53_4 (by decide) rfl (fun h => absurd h (by decide)) (fun _ => ?_)
  refine x_aload_n C dJ0_indexOf_7cf53_7 rfl 0 rfl rfl ?_
  refine x_sgf C (C.2.2.2.2.2.2.2.2.2.2.2.1.1 i hi).2.2.1 w_1691 (fun _ h9 => h9) dJ0_indexOf_7cf53_8 rfl ?_
  refine x_iload_n C dJ0_indexOf_7cf53_11 rfl 1 rfl rfl ?_
  refine x_iload_n C dJ0_indexOf_7cf53_12 rfl 2 rfl rfl ?_
  refine x_aload_n C dJ0_indexOf_7cf53_13 rfl 0 rfl rfl ?_
  refine x_vs C (As := []) (rest := [.int 0, .int ch, .ref (sV E i)]) hi (c_length E l a ws hW i hi) (mf_str mf_J0_length_8abf5) w_543 rfl rfl (Nat.le_of_ble_eq_true rfl) ⟨(Nat.le_of_ble_eq_true rfl), (Nat.le_of_ble_eq_true rfl)⟩ ⟨(Nat.le_of_ble_eq_true rfl), (Nat.le_of_ble_eq_true rfl)⟩ dJ0_indexOf_7cf53_14 rfl (fun r6 w7 h8 => ?_)
  obtain ⟨g10, e9⟩ := h8
  refine x_top e9 (x_ws g10 ?_)
  refine x_si C (As := [.ref (sV E i), .int ch, .int 0, .int (nI (sN i))]) (rest := []) (c_L1indexOf E l a ws hW ch i hi) mf_J1_indexOf_4cfef w_551 rfl rfl (Nat.le_of_ble_eq_true rfl) ⟨(Nat.le_of_ble_eq_true rfl), (Nat.le_of_ble_eq_true rfl)⟩ ⟨(Nat.le_of_ble_eq_true rfl), (Nat.le_of_ble_eq_true rfl)⟩ dJ0_indexOf_7cf53_17 rfl (fun r12 w13 h11 => ?_)
  have hW14 := h11
  refine x_ws hW14 ?_
  refine x_goto C (tgt := 36) dJ0_indexOf_7cf53_20 (by decide) ?_
  exact x_zret C hr hlk rfl dJ0_indexOf_7cf53_36 rfl
theorem dJ0_indexOf_0f7a4_0 : decode cJ0_indexOf_0f7a4 0 = .ok (.aload_n 0, 1) := by decide +kernel
theorem dJ0_indexOf_0f7a4_1 : decode cJ0_indexOf_0f7a4 1 = .ok (.iload_n 1, 1) := by decide +kernel
theorem dJ0_indexOf_0f7a4_2 : decode cJ0_indexOf_0f7a4 2 = .ok (.iconst 0, 1) := by decide +kernel
theorem dJ0_indexOf_0f7a4_3 : decode cJ0_indexOf_0f7a4 3 = .ok (.invokevirtual 633, 3) := by decide +kernel
theorem dJ0_indexOf_0f7a4_6 : decode cJ0_indexOf_0f7a4 6 = .ok (.ireturn, 1) := by decide +kernel
set_option maxRecDepth 20000 in
set_option maxHeartbeats 4000000 in
theorem c_indexOf1 (E : xE) (l : Launch) (a : Nat → Nat) (ws : va_W) (hW : WX (okX E a) ws) (ch : Int32) (i : Nat) (hi : i < 2) : xI E l yJ0_indexOf_0f7a4 cJ0_indexOf_0f7a4 2 (some .int) 4 [.ref (sK E i), .int ch] ws (fun r w => w = ws) := by
  refine xI_start (lv := [(0, .ref (sK E i)), (1, .int ch)]) RJ0 (by decide) rfl (Nat.le_of_ble_eq_true rfl) rfl (fun p e s m below meth c A C hr hlk => ?_)
  have hsN := sN_le i
  refine x_aload_n C dJ0_indexOf_0f7a4_0 rfl 0 rfl rfl ?_
  refine x_iload_n C dJ0_indexOf_0f7a4_1 rfl 1 rfl rfl ?_
  refine x_iconst C (v := 0) dJ0_indexOf_0f7a4_2 (by decide) rfl ?_
  refine x_vs C (As := [.int ch, .int 0]) (rest := []) hi (c_indexOf2 E l a ws hW ch i hi) (mf_str mf_J0_indexOf_7cf53) w_533 rfl rfl (Nat.le_of_ble_eq_true rfl) ⟨(Nat.le_of_ble_eq_true rfl), (Nat.le_of_ble_eq_true rfl)⟩ ⟨(Nat.le_of_ble_eq_true rfl), (Nat.le_of_ble_eq_true rfl)⟩ dJ0_indexOf_0f7a4_3 rfl (fun r1 w2 h3 => ?_)
  refine x_ws h3 ?_
  exact x_zret C hr hlk rfl dJ0_indexOf_0f7a4_6 rfl
theorem dX4_placeIn_0 : decode cX4_placeIn 0 = .ok (.iload_n 1, 1) := by decide +kernel
theorem dX4_placeIn_1 : decode cX4_placeIn 1 = .ok (.ifCond .ge 7, 3) := by decide +kernel
theorem dX4_placeIn_4 : decode cX4_placeIn 4 = .ok (.iconst (-1), 1) := by decide +kernel
theorem dX4_placeIn_5 : decode cX4_placeIn 5 = .ok (.goto 9, 3) := by decide +kernel
theorem dX4_placeIn_8 : decode cX4_placeIn 8 = .ok (.aload_n 0, 1) := by decide +kernel
theorem dX4_placeIn_9 : decode cX4_placeIn 9 = .ok (.iload_n 1, 1) := by decide +kernel
theorem dX4_placeIn_10 : decode cX4_placeIn 10 = .ok (.i2c, 1) := by decide +kernel
theorem dX4_placeIn_11 : decode cX4_placeIn 11 = .ok (.invokevirtual 91, 3) := by decide +kernel
theorem dX4_placeIn_14 : decode cX4_placeIn 14 = .ok (.ireturn, 1) := by decide +kernel
set_option maxRecDepth 20000 in
set_option maxHeartbeats 4000000 in
theorem c_placeIn (E : xE) (l : Launch) (a : Nat → Nat) (ws : va_W) (hW : WX (okX E a) ws) (sg : Int32) (i : Nat) (hi : i < 2) : xI E l yX4_placeIn cX4_placeIn 2 (some .int) 5 [.ref (sK E i), .int sg] ws (fun r w => w = ws) := by
  refine xI_start (lv := [(0, .ref (sK E i)), (1, .int sg)]) RX4 (by decide) rfl (Nat.le_of_ble_eq_true rfl) rfl (fun p e s m below meth c A C hr hlk => ?_)
  have hsN := sN_le i
  refine x_iload_n C dX4_placeIn_0 rfl 1 rfl rfl ?_
  refine x_if_ge C (tgt := 8) dX4_placeIn_1 (by decide) rfl (fun c1 => ?_) (fun c1 => ?_)
  · skip
    obtain ⟨j2, hj3, ej4⟩ := nI_of (Int32.not_lt.mpr c1)
    subst ej4
    refine x_aload_n C dX4_placeIn_8 rfl 0 rfl rfl ?_
    refine x_iload_n C dX4_placeIn_9 rfl 1 rfl rfl ?_
    refine x_i2c C dX4_placeIn_10 rfl rfl ?_
    refine x_any (fun v5 => ?_)
    refine x_vs C (As := [.int v5]) (rest := []) hi (c_indexOf1 E l a ws hW v5 i hi) (mf_str mf_J0_indexOf_0f7a4) w_529 rfl rfl (Nat.le_of_ble_eq_true rfl) ⟨(Nat.le_of_ble_eq_true rfl), (Nat.le_of_ble_eq_true rfl)⟩ ⟨(Nat.le_of_ble_eq_true rfl), (Nat.le_of_ble_eq_true rfl)⟩ dX4_placeIn_11 rfl (fun r6 w7 h8 => ?_)
    refine x_ws h8 ?_
    exact x_zret C hr hlk rfl dX4_placeIn_14 rfl
  · skip
    refine x_iconst C (v := (-1)) dX4_placeIn_4 (by decide) rfl ?_
    refine x_goto C (tgt := 14) dX4_placeIn_5 (by decide) ?_
    exact x_zret C hr hlk rfl dX4_placeIn_14 rfl
