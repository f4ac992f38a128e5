def hb (x k : Int32) : Prop := (x >>> (k &&& 31)) &&& 1 = 1
def bt (x : Int32) : Nat → Int32
  | 0 => 0
  | k + 1 => bt x k + ((x >>> (nI k &&& 31)) &&& 1)
/-- now after a draw -/
def dwK (E : xE) (a : Nat → Nat) (ws w : va_W) : Prop := ∀ f : Nat → Int32, ws[1]? = some (iA E (a 1) 382 f) → ∃ v : Int32, w[1]? = some (iA E (a 1) 382 (upd f 380 v))
theorem iA_inj {E : xE} {x y n m : Nat} {f g : Nat → Int32} (h : some (iA E x n f) = some (iA E y m g)) : f = g := by
  injection h with h
  injection h with _ h
  injection h with h
  injection h with _ h
  injection h with _ h
  injection h
theorem dX12_in_0 : decode cX12_in 0 = .ok (.iload_n 0, 1) := by decide +kernel
theorem dX12_in_1 : decode cX12_in 1 = .ok (.iload_n 1, 1) := by decide +kernel
theorem dX12_in_2 : decode cX12_in 2 = .ok (.if_icmp .lt 12, 3) := by decide +kernel
theorem dX12_in_5 : decode cX12_in 5 = .ok (.iload_n 0, 1) := by decide +kernel
theorem dX12_in_6 : decode cX12_in 6 = .ok (.iload_n 2, 1) := by decide +kernel
theorem dX12_in_7 : decode cX12_in 7 = .ok (.if_icmp .gt 7, 3) := by decide +kernel
theorem dX12_in_10 : decode cX12_in 10 = .ok (.iconst 1, 1) := by decide +kernel
theorem dX12_in_11 : decode cX12_in 11 = .ok (.goto 4, 3) := by decide +kernel
theorem dX12_in_14 : decode cX12_in 14 = .ok (.iconst 0, 1) := by decide +kernel
theorem dX12_in_15 : decode cX12_in 15 = .ok (.ireturn, 1) := by decide +kernel
set_option maxRecDepth 20000 in
set_option maxHeartbeats 4000000 in
theorem m_in (E : xE) (l : Launch) (a : Nat → Nat) (cd : Cd) (hG : Good cd) (ws : va_W) (hW : WX (okM E a cd) ws) (v : Int32) (lo : Int32) (hi : Int32) : xI E l yX12_in cX12_in 3 (some .boolean) 0 [.int v, .int lo, .int hi] ws (fun r w => w = ws ∧ zb r ∧ (¬ r = 0 → wth v lo hi)) := by
  refine xI_start (lv := [(0, .int v), (1, .int lo), (2, .int hi)]) RX12 (by decide) rfl (Nat.le_of_ble_eq_true rfl) rfl (fun p e s m below meth c A C hr hlk => ?_)
  refine x_iload_n C dX12_in_0 rfl 0 rfl rfl ?_
  refine x_iload_n C dX12_in_1 rfl 1 rfl rfl ?_
  refine x_icmp_lt C (tgt := 14) dX12_in_2 (by decide) rfl (fun c1 => ?_) (fun c1 => ?_)
  · skip
    refine x_iconst C (v := 0) dX12_in_14 (by decide) rfl ?_
    exact x_zret C hr hlk rfl dX12_in_15 ⟨rfl, (Or.inl rfl), (fun q => absurd rfl q)⟩
  · skip
    refine x_iload_n C dX12_in_5 rfl 0 rfl rfl ?_
    refine x_iload_n C dX12_in_6 rfl 2 rfl rfl ?_
    refine x_icmp_gt C (tgt := 14) dX12_in_7 (by decide) rfl (fun c2 => ?_) (fun c2 => ?_)
    · skip
      refine x_iconst C (v := 0) dX12_in_14 (by decide) rfl ?_
      exact x_zret C hr hlk rfl dX12_in_15 ⟨rfl, (Or.inl rfl), (fun q => absurd rfl q)⟩
    · skip
      refine x_iconst C (v := 1) dX12_in_10 (by decide) rfl ?_
      refine x_goto C (tgt := 15) dX12_in_11 (by decide) ?_
      exact x_zret C hr hlk rfl dX12_in_15 ⟨rfl, (Or.inr rfl), (fun _ => ⟨c1, c2⟩)⟩
theorem dX12_min_0 : decode cX12_min 0 = .ok (.iload_n 0, 1) := by decide +kernel
theorem dX12_min_1 : decode cX12_min 1 = .ok (.iload_n 1, 1) := by decide +kernel
theorem dX12_min_2 : decode cX12_min 2 = .ok (.if_icmp .ge 7, 3) := by decide +kernel
theorem dX12_min_5 : decode cX12_min 5 = .ok (.iload_n 0, 1) := by decide +kernel
theorem dX12_min_6 : decode cX12_min 6 = .ok (.goto 4, 3) := by decide +kernel
theorem dX12_min_9 : decode cX12_min 9 = .ok (.iload_n 1, 1) := by decide +kernel
theorem dX12_min_10 : decode cX12_min 10 = .ok (.ireturn, 1) := by decide +kernel
set_option maxRecDepth 20000 in
set_option maxHeartbeats 4000000 in
theorem m_min (E : xE) (l : Launch) (a : Nat → Nat) (cd : Cd) (hG : Good cd) (ws : va_W) (hW : WX (okM E a cd) ws) (p0 : Int32) (p1 : Int32) : xI E l yX12_min cX12_min 2 (some .int) 0 [.int p0, .int p1] ws (fun r w => w = ws) := by
  refine xI_start (lv := [(0, .int p0), (1, .int p1)]) RX12 (by decide) rfl (Nat.le_of_ble_eq_true rfl) rfl (fun p e s m below meth c A C hr hlk => ?_)
  refine x_iload_n C dX12_min_0 rfl 0 rfl rfl ?_
  refine x_iload_n C dX12_min_1 rfl 1 rfl rfl ?_
  refine x_icmp_ge C (tgt := 9) dX12_min_2 (by decide) rfl (fun c1 => ?_) (fun c1 => ?_)
  · skip
    refine x_iload_n C dX12_min_9 rfl 1 rfl rfl ?_
    exact x_zret C hr hlk rfl dX12_min_10 rfl
  · skip
    refine x_iload_n C dX12_min_5 rfl 0 rfl rfl ?_
    refine x_goto C (tgt := 10) dX12_min_6 (by decide) ?_
    exact x_zret C hr hlk rfl dX12_min_10 rfl
theorem dX12_max_0 : decode cX12_max 0 = .ok (.iload_n 0, 1) := by decide +kernel
theorem dX12_max_1 : decode cX12_max 1 = .ok (.iload_n 1, 1) := by decide +kernel
theorem dX12_max_2 : decode cX12_max 2 = .ok (.if_icmp .le 7, 3) := by decide +kernel
theorem dX12_max_5 : decode cX12_max 5 = .ok (.iload_n 0, 1) := by decide +kernel
theorem dX12_max_6 : decode cX12_max 6 = .ok (.goto 4, 3) := by decide +kernel
theorem dX12_max_9 : decode cX12_max 9 = .ok (.iload_n 1, 1) := by decide +kernel
theorem dX12_max_10 : decode cX12_max 10 = .ok (.ireturn, 1) := by decide +kernel
set_option maxRecDepth 20000 in
set_option maxHeartbeats 4000000 in
theorem m_max (E : xE) (l : Launch) (a : Nat → Nat) (cd : Cd) (hG : Good cd) (ws : va_W) (hW : WX (okM E a cd) ws) (p0 : Int32) (p1 : Int32) : xI E l yX12_max cX12_max 2 (some .int) 0 [.int p0, .int p1] ws (fun r w => w = ws) := by
  refine xI_start (lv := [(0, .int p0), (1, .int p1)]) RX12 (by decide) rfl (Nat.le_of_ble_eq_true rfl) rfl (fun p e s m below meth c A C hr hlk => ?_)
  refine x_iload_n C dX12_max_0 rfl 0 rfl rfl ?_
  refine x_iload_n C dX12_max_1 rfl 1 rfl rfl ?_
  refine x_icmp_le C (tgt := 9) dX12_max_2 (by decide) rfl (fun c1 => ?_) (fun c1 => ?_)
  · skip
    refine x_iload_n C dX12_max_9 rfl 1 rfl rfl ?_
    exact x_zret C hr hlk rfl dX12_max_10 rfl
  · skip
    refine x_iload_n C dX12_max_5 rfl 0 rfl rfl ?_
    refine x_goto C (tgt := 10) dX12_max_6 (by decide) ?_
    exact x_zret C hr hlk rfl dX12_max_10 rfl
theorem dX12_has_0 : decode cX12_has 0 = .ok (.iload_n 0, 1) := by decide +kernel
theorem dX12_has_1 : decode cX12_has 1 = .ok (.iload_n 1, 1) := by decide +kernel
theorem dX12_has_2 : decode cX12_has 2 = .ok (.ishr, 1) := by decide +kernel
theorem dX12_has_3 : decode cX12_has 3 = .ok (.iconst 1, 1) := by decide +kernel
theorem dX12_has_4 : decode cX12_has 4 = .ok (.iand, 1) := by decide +kernel
theorem dX12_has_5 : decode cX12_has 5 = .ok (.iconst 1, 1) := by decide +kernel
theorem dX12_has_6 : decode cX12_has 6 = .ok (.if_icmp .ne 7, 3) := by decide +kernel
theorem dX12_has_9 : decode cX12_has 9 = .ok (.iconst 1, 1) := by decide +kernel
theorem dX12_has_10 : decode cX12_has 10 = .ok (.goto 4, 3) := by decide +kernel
theorem dX12_has_13 : decode cX12_has 13 = .ok (.iconst 0, 1) := by decide +kernel
theorem dX12_has_14 : decode cX12_has 14 = .ok (.ireturn, 1) := by decide +kernel
set_option maxRecDepth 20000 in
set_option maxHeartbeats 4000000 in
theorem m_has (E : xE) (l : Launch) (a : Nat → Nat) (cd : Cd) (hG : Good cd) (ws : va_W) (hW : WX (okM E a cd) ws) (p0 : Int32) (p1 : Int32) : xI E l yX12_has cX12_has 2 (some .boolean) 0 [.int p0, .int p1] ws (fun r w => w = ws ∧ zb r ∧ (¬ r = 0 ↔ hb p0 p1)) := by
  refine xI_start (lv := [(0, .int p0), (1, .int p1)]) RX12 (by decide) rfl (Nat.le_of_ble_eq_true rfl) rfl (fun p e s m below meth c A C hr hlk => ?_)
  refine x_iload_n C dX12_has_0 rfl 0 rfl rfl ?_
  refine x_iload_n C dX12_has_1 rfl 1 rfl rfl ?_
  refine x_ishr C (v := (p0 >>> (p1 &&& 31))) dX12_has_2 rfl rfl ?_
  refine x_iconst C (v := 1) dX12_has_3 (by decide) rfl ?_
  refine x_iand C (v := ((p0 >>> (p1 &&& 31)) &&& (1 : Int32))) dX12_has_4 rfl rfl ?_
  refine x_iconst C (v := 1) dX12_has_5 (by decide) rfl ?_
  refine x_icmp_ne C (tgt := 13) dX12_has_6 (by decide) rfl (fun c1 => ?_) (fun c1 => ?_)
  · skip
    refine x_iconst C (v := 0) dX12_has_13 (by decide) rfl ?_
    exact x_zret C hr hlk rfl dX12_has_14 ⟨rfl, (Or.inl rfl), ⟨fun q => absurd rfl q, fun q => absurd q c1⟩⟩
  · skip
    refine x_iconst C (v := 1) dX12_has_9 (by decide) rfl ?_
    refine x_goto C (tgt := 14) dX12_has_10 (by decide) ?_
    exact x_zret C hr hlk rfl dX12_has_14 ⟨rfl, (Or.inr rfl), ⟨fun _ => c1, fun _ => (by decide)⟩⟩
theorem dX12_bits_0 : decode cX12_bits 0 = .ok (.iconst 0, 1) := by decide +kernel
theorem dX12_bits_1 : decode cX12_bits 1 = .ok (.istore_n 1, 1) := by decide +kernel
theorem dX12_bits_2 : decode cX12_bits 2 = .ok (.iconst 0, 1) := by decide +kernel
theorem dX12_bits_3 : decode cX12_bits 3 = .ok (.istore_n 2, 1) := by decide +kernel
theorem dX12_bits_4 : decode cX12_bits 4 = .ok (.iload_n 2, 1) := by decide +kernel
theorem dX12_bits_5 : decode cX12_bits 5 = .ok (.bipush 12, 2) := by decide +kernel
theorem dX12_bits_7 : decode cX12_bits 7 = .ok (.if_icmp .ge 17, 3) := by decide +kernel
theorem dX12_bits_10 : decode cX12_bits 10 = .ok (.iload_n 1, 1) := by decide +kernel
theorem dX12_bits_11 : decode cX12_bits 11 = .ok (.iload_n 0, 1) := by decide +kernel
theorem dX12_bits_12 : decode cX12_bits 12 = .ok (.iload_n 2, 1) := by decide +kernel
theorem dX12_bits_13 : decode cX12_bits 13 = .ok (.ishr, 1) := by decide +kernel
theorem dX12_bits_14 : decode cX12_bits 14 = .ok (.iconst 1, 1) := by decide +kernel
theorem dX12_bits_15 : decode cX12_bits 15 = .ok (.iand, 1) := by decide +kernel
theorem dX12_bits_16 : decode cX12_bits 16 = .ok (.iadd, 1) := by decide +kernel
theorem dX12_bits_17 : decode cX12_bits 17 = .ok (.istore_n 1, 1) := by decide +kernel
theorem dX12_bits_18 : decode cX12_bits 18 = .ok (.iinc 2 1, 3) := by decide +kernel
theorem dX12_bits_21 : decode cX12_bits 21 = .ok (.goto (-17), 3) := by decide +kernel
theorem dX12_bits_24 : decode cX12_bits 24 = .ok (.iload_n 1, 1) := by decide +kernel
theorem dX12_bits_25 : decode cX12_bits 25 = .ok (.ireturn, 1) := by decide +kernel
set_option maxRecDepth 20000 in
set_option maxHeartbeats 4000000 in
theorem m_bits (E : xE) (l : Launch) (a : Nat → Nat) (cd : Cd) (hG : Good cd) (ws : va_W) (hW : WX (okM E a cd) ws) (p0 : Int32) : xI E l yX12_bits cX12_bits 3 (some .int) 0 [.int p0] ws (fun r w => w = ws ∧ (r = bt p0 12)) := by
  refine xI_start (lv := [(0, .int p0)]) RX12 (by decide) rfl (Nat.le_of_ble_eq_true rfl) rfl (fun p e s m below meth c A C hr hlk => ?_)
  refine x_iconst C (v := 0) dX12_bits_0 (by decide) rfl ?_
  refine x_istore_n C (lv' := [(1, .int 0), (0, .int p0)]) dX12_bits_1 rfl (by decide) rfl rfl ?_
  refine x_iconst C (v := 0) dX12_bits_2 (by decide) rfl ?_
  refine x_istore_n C (lv' := [(2, .int 0), (1, .int 0), (0, .int p0)]) dX12_bits_3 rfl (by decide) rfl rfl ?_
  have loop4 : ∀ (fu4 : Nat) (z4_1 : Int32) (k : Nat), True → 12 - k < fu4 → k ≤ 12 → z4_1 = bt p0 k → X E p l e (xRm 0 0 0) s m ([.int p0] : List Value).toArray below meth c A 3 0 0 (MQ below (va_Qi (fun r w => w = ws ∧ (r = bt p0 12)) (xB E A) A) ([.int p0] : List Value).toArray s 0 0 A) ws 4 [(0, .int p0), (1, .int z4_1), (2, .int (nI k))] [] := by
    intro fu4
    induction fu4 with
    | zero => intro z4_1 k _ q; omega
    | succ fu4 ih4 =>
      intro z4_1 k _ me4 iv4_0 iv4_1
      refine x_iload_n C dX12_bits_4 rfl 2 rfl rfl ?_
      refine x_bipush C (v := 12) dX12_bits_5 (by decide) rfl ?_
      refine x_icmp_ge C (tgt := 24) dX12_bits_7 (by decide) rfl (fun c1 => ?_) (fun c1 => ?_)
      · skip
        have nf2 := nI_le' (a := 12) (b := k) c1 (by omega) (by omega)
        refine x_iload_n C dX12_bits_24 rfl 1 rfl rfl ?_
        exact x_zret C hr hlk rfl dX12_bits_25 ⟨rfl, (iv4_1.trans (congrArg (bt p0) (by omega)))⟩
      · skip
        have nf3 := nI_nle' (a := 12) (b := k) c1 (by omega) (by omega)
        refine x_iload_n C dX12_bits_10 rfl 1 rfl rfl ?_
        refine x_iload_n C dX12_bits_11 rfl 0 rfl rfl ?_
        refine x_iload_n C dX12_bits_12 rfl 2 rfl rfl ?_
        refine x_ishr C (v := (p0 >>> ((nI k) &&& 31))) dX12_bits_13 rfl rfl ?_
        refine x_iconst C (v := 1) dX12_bits_14 (by decide) rfl ?_
        refine x_iand C (v := ((p0 >>> ((nI k) &&& 31)) &&& (1 : Int32))) dX12_bits_15 rfl rfl ?_
        refine x_iadd C (v := (z4_1 + ((p0 >>> ((nI k) &&& 31)) &&& (1 : Int32)))) dX12_bits_16 rfl rfl ?_
        refine x_istore_n C (lv' := [(1, .int (z4_1 + ((p0 >>> ((nI k) &&& 31)) &&& (1 : Int32)))), (0, .int p0), (2, .int (nI k))]) dX12_bits_17 rfl (by decide) rfl rfl ?_
        refine x_iinc C (v := (nI (k + 1))) (lv' := [(2, .int (nI (k + 1))), (1, .int (z4_1 + ((p0 >>> ((nI k) &&& 31)) &&& (1 : Int32)))), (0, .int p0)]) dX12_bits_18 2 rfl (nI_add k 1) (by decide) rfl rfl ?_
        refine x_goto C (tgt := 4) dX12_bits_21 (by decide) ?_
        refine x_lv (lv1 := [(0, .int p0), (1, .int (z4_1 + ((p0 >>> ((nI k) &&& 31)) &&& (1 : Int32)))), (2, .int (nI (k + 1)))]) [2, 1, 0] rfl ?_
        exact ih4 ((z4_1 + ((p0 >>> ((nI k) &&& 31)) &&& (1 : Int32)))) (k + 1) trivial (by omega) (by omega) (by rw [iv4_1]; rfl)
  refine x_lv (lv1 := [(0, .int p0), (1, .int 0), (2, .int 0)]) [2, 1, 0] rfl ?_
  exact loop4 _ (0 : Int32) 0 trivial (Nat.lt_succ_self _) (by omega) rfl
theorem dX12_isPerson_0 : decode cX12_isPerson 0 = .ok (.iload_n 1, 1) := by decide +kernel
theorem dX12_isPerson_1 : decode cX12_isPerson 1 = .ok (.ifCond .lt 28, 3) := by decide +kernel
theorem dX12_isPerson_4 : decode cX12_isPerson 4 = .ok (.iload_n 1, 1) := by decide +kernel
theorem dX12_isPerson_5 : decode cX12_isPerson 5 = .ok (.bipush 8, 2) := by decide +kernel
theorem dX12_isPerson_7 : decode cX12_isPerson 7 = .ok (.if_icmp .ge 22, 3) := by decide +kernel
theorem dX12_isPerson_10 : decode cX12_isPerson 10 = .ok (.aload_n 0, 1) := by decide +kernel
theorem dX12_isPerson_11 : decode cX12_isPerson 11 = .ok (.getfield 7, 3) := by decide +kernel
theorem dX12_isPerson_14 : decode cX12_isPerson 14 = .ok (.sipush 320, 3) := by decide +kernel
theorem dX12_isPerson_17 : decode cX12_isPerson 17 = .ok (.iaload, 1) := by decide +kernel
theorem dX12_isPerson_18 : decode cX12_isPerson 18 = .ok (.iload_n 1, 1) := by decide +kernel
theorem dX12_isPerson_19 : decode cX12_isPerson 19 = .ok (.invokestatic 101, 3) := by decide +kernel
theorem dX12_isPerson_22 : decode cX12_isPerson 22 = .ok (.ifCond .eq 7, 3) := by decide +kernel
theorem dX12_isPerson_25 : decode cX12_isPerson 25 = .ok (.iconst 1, 1) := by decide +kernel
theorem dX12_isPerson_26 : decode cX12_isPerson 26 = .ok (.goto 4, 3) := by decide +kernel
theorem dX12_isPerson_29 : decode cX12_isPerson 29 = .ok (.iconst 0, 1) := by decide +kernel
theorem dX12_isPerson_30 : decode cX12_isPerson 30 = .ok (.ireturn, 1) := by decide +kernel
set_option maxRecDepth 20000 in
set_option maxHeartbeats 4000000 in
theorem m_isPerson (E : xE) (l : Launch) (a : Nat → Nat) (cd : Cd) (hG : Good cd) (ws : va_W) (hW : WX (okM E a cd) ws) (p0 : Int32) : xI E l yX12_isPerson cX12_isPerson 2 (some .boolean) 1 [.ref (a 0), .int p0] ws (fun r w => w = ws ∧ zb r ∧ (¬ r = 0 → wth p0 0 7)) := by
  refine xI_start (lv := [(0, .ref (a 0)), (1, .int p0)]) RX12 (by decide) rfl (Nat.le_of_ble_eq_true rfl) rfl (fun p e s m below meth c A C hr hlk => ?_)
  refine x_iload_n C dX12_isPerson_0 rfl 1 rfl rfl ?_
  refine x_if_lt C (tgt := 29) dX12_isPerson_1 (by decide) rfl (fun c1 => ?_) (fun c1 => ?_)
  · skip
    refine x_iconst C (v := 0) dX12_isPerson_29 (by decide) rfl ?_
    exact x_zret C hr hlk rfl dX12_isPerson_30 ⟨rfl, (Or.inl rfl), (fun q => absurd rfl q)⟩
  · skip
    obtain ⟨j2, hj3, ej4⟩ := nI_of c1
    subst ej4
    refine x_iload_n C dX12_isPerson_4 rfl 1 rfl rfl ?_
    refine x_bipush C (v := 8) dX12_isPerson_5 (by decide) rfl ?_
    refine x_icmp_ge C (tgt := 29) dX12_isPerson_7 (by decide) rfl (fun c5 => ?_) (fun c5 => ?_)
    · skip
      have nf6 := nI_le' (a := 8) (b := j2) c5 (by omega) (by omega)
      refine x_iconst C (v := 0) dX12_isPerson_29 (by decide) rfl ?_
      exact x_zret C hr hlk rfl dX12_isPerson_30 ⟨rfl, (Or.inl rfl), (fun q => absurd rfl q)⟩
    · skip
      have nf7 := nI_nle' (a := 8) (b := j2) c5 (by omega) (by omega)
      refine x_aload_n C dX12_isPerson_10 rfl 0 rfl rfl ?_
      obtain ⟨_, k8, n9, n11, n13, v15, v16, v17, n18, n20, n22, n24, v26, v27, v28, v29, n30, n32, v34, bn10, bn12, bn14, bn19, bn21, bn23, bn25, bn31, bn33, zv35, rfl⟩ := hW 0 _ rfl
      refine x_get C (ci := 11) (k := 0) 0 k8 rfl in_X12 (by decide) w_1118 rfl dX12_isPerson_11 rfl ?_
      refine x_sipush C (v := 320) dX12_isPerson_14 (by decide) rfl ?_
      obtain ⟨_, k36, f37, pf38, rfl⟩ := hW 1 _ rfl
      refine x_iald C (v := (f37 (320 : Int32).toNatClampNeg)) 1 k36 (vp_k (j := 320) (by decide) (by decide) (by decide)) rfl dX12_isPerson_17 rfl ?_
      refine x_any (fun v39 => ?_)
      refine x_iload_n C dX12_isPerson_18 rfl 1 rfl rfl ?_
      refine x_si C (As := [.int v39, .int (nI j2)]) (rest := []) (m_has E l a cd hG ws hW v39 ((nI j2))) mf_X12_has w_1274 rfl rfl (Nat.le_of_ble_eq_true rfl) ⟨(Nat.le_of_ble_eq_true rfl), (Nat.le_of_ble_eq_true rfl)⟩ ⟨(Nat.le_of_ble_eq_true rfl), (Nat.le_of_ble_eq_true rfl)⟩ dX12_isPerson_19 rfl (fun r41 w42 h40 => ?_)
      obtain ⟨hW43, zb44, x45⟩ := h40
      refine x_ws hW43 ?_
      refine x_if_eq C (tgt := 29) dX12_isPerson_22 (by decide) rfl (fun c46 => ?_) (fun c46 => ?_)
      · skip
        refine x_iconst C (v := 0) dX12_isPerson_29 (by decide) rfl ?_
        exact x_zret C hr hlk rfl dX12_isPerson_30 ⟨rfl, (Or.inl rfl), (fun q => absurd rfl q)⟩
      · skip
        refine x_iconst C (v := 1) dX12_isPerson_25 (by decide) rfl ?_
        refine x_goto C (tgt := 30) dX12_isPerson_26 (by decide) ?_
        exact x_zret C hr hlk rfl dX12_isPerson_30 ⟨rfl, (Or.inr rfl), (fun _ => wth_n (a := 0) (b := 7) (by omega) (by omega) (by decide))⟩
theorem dX12_isHen_0 : decode cX12_isHen 0 = .ok (.iload_n 1, 1) := by decide +kernel
theorem dX12_isHen_1 : decode cX12_isHen 1 = .ok (.ifCond .lt 28, 3) := by decide +kernel
theorem dX12_isHen_4 : decode cX12_isHen 4 = .ok (.iload_n 1, 1) := by decide +kernel
theorem dX12_isHen_5 : decode cX12_isHen 5 = .ok (.bipush 8, 2) := by decide +kernel
theorem dX12_isHen_7 : decode cX12_isHen 7 = .ok (.if_icmp .ge 22, 3) := by decide +kernel
theorem dX12_isHen_10 : decode cX12_isHen 10 = .ok (.aload_n 0, 1) := by decide +kernel
theorem dX12_isHen_11 : decode cX12_isHen 11 = .ok (.getfield 7, 3) := by decide +kernel
theorem dX12_isHen_14 : decode cX12_isHen 14 = .ok (.sipush 337, 3) := by decide +kernel
theorem dX12_isHen_17 : decode cX12_isHen 17 = .ok (.iaload, 1) := by decide +kernel
theorem dX12_isHen_18 : decode cX12_isHen 18 = .ok (.iload_n 1, 1) := by decide +kernel
theorem dX12_isHen_19 : decode cX12_isHen 19 = .ok (.invokestatic 101, 3) := by decide +kernel
theorem dX12_isHen_22 : decode cX12_isHen 22 = .ok (.ifCond .eq 7, 3) := by decide +kernel
theorem dX12_isHen_25 : decode cX12_isHen 25 = .ok (.iconst 1, 1) := by decide +kernel
theorem dX12_isHen_26 : decode cX12_isHen 26 = .ok (.goto 4, 3) := by decide +kernel
theorem dX12_isHen_29 : decode cX12_isHen 29 = .ok (.iconst 0, 1) := by decide +kernel
theorem dX12_isHen_30 : decode cX12_isHen 30 = .ok (.ireturn, 1) := by decide +kernel
set_option maxRecDepth 20000 in
set_option maxHeartbeats 4000000 in
theorem m_isHen (E : xE) (l : Launch) (a : Nat → Nat) (cd : Cd) (hG : Good cd) (ws : va_W) (hW : WX (okM E a cd) ws) (p0 : Int32) : xI E l yX12_isHen cX12_isHen 2 (some .boolean) 1 [.ref (a 0), .int p0] ws (fun r w => w = ws ∧ zb r ∧ (¬ r = 0 → wth p0 0 7)) := by
  refine xI_start (lv := [(0, .ref (a 0)), (1, .int p0)]) RX12 (by decide) rfl (Nat.le_of_ble_eq_true rfl) rfl (fun p e s m below meth c A C hr hlk => ?_)
  refine x_iload_n C dX12_isHen_0 rfl 1 rfl rfl ?_
  refine x_if_lt C (tgt := 29) dX12_isHen_1 (by decide) rfl (fun c1 => ?_) (fun c1 => ?_)
  · skip
    refine x_iconst C (v := 0) dX12_isHen_29 (by decide) rfl ?_
    exact x_zret C hr hlk rfl dX12_isHen_30 ⟨rfl, (Or.inl rfl), (fun q => absurd rfl q)⟩
  · skip
    obtain ⟨j2, hj3, ej4⟩ := nI_of c1
    subst ej4
    refine x_iload_n C dX12_isHen_4 rfl 1 rfl rfl ?_
    refine x_bipush C (v := 8) dX12_isHen_5 (by decide) rfl ?_
    refine x_icmp_ge C (tgt := 29) dX12_isHen_7 (by decide) rfl (fun c5 => ?_) (fun c5 => ?_)
    · skip
      have nf6 := nI_le' (a := 8) (b := j2) c5 (by omega) (by omega)
      refine x_iconst C (v := 0) dX12_isHen_29 (by decide) rfl ?_
      exact x_zret C hr hlk rfl dX12_isHen_30 ⟨rfl, (Or.inl rfl), (fun q => absurd rfl q)⟩
    · skip
      have nf7 := nI_nle' (a := 8) (b := j2) c5 (by omega) (by omega)
      refine x_aload_n C dX12_isHen_10 rfl 0 rfl rfl ?_
      obtain ⟨_, k8, n9, n11, n13, v15, v16, v17, n18, n20, n22, n24, v26, v27, v28, v29, n30, n32, v34, bn10, bn12, bn14, bn19, bn21, bn23, bn25, bn31, bn33, zv35, rfl⟩ := hW 0 _ rfl
      refine x_get C (ci := 11) (k := 0) 0 k8 rfl in_X12 (by decide) w_1118 rfl dX12_isHen_11 rfl ?_
      refine x_sipush C (v := 337) dX12_isHen_14 (by decide) rfl ?_
      obtain ⟨_, k36, f37, pf38, rfl⟩ := hW 1 _ rfl
      refine x_iald C (v := (f37 (337 : Int32).toNatClampNeg)) 1 k36 (vp_k (j := 337) (by decide) (by decide) (by decide)) rfl dX12_isHen_17 rfl ?_
      refine x_any (fun v39 => ?_)
      refine x_iload_n C dX12_isHen_18 rfl 1 rfl rfl ?_
      refine x_si C (As := [.int v39, .int (nI j2)]) (rest := []) (m_has E l a cd hG ws hW v39 ((nI j2))) mf_X12_has w_1274 rfl rfl (Nat.le_of_ble_eq_true rfl) ⟨(Nat.le_of_ble_eq_true rfl), (Nat.le_of_ble_eq_true rfl)⟩ ⟨(Nat.le_of_ble_eq_true rfl), (Nat.le_of_ble_eq_true rfl)⟩ dX12_isHen_19 rfl (fun r41 w42 h40 => ?_)
      obtain ⟨hW43, zb44, x45⟩ := h40
      refine x_ws hW43 ?_
      refine x_if_eq C (tgt := 29) dX12_isHen_22 (by decide) rfl (fun c46 => ?_) (fun c46 => ?_)
      · skip
        refine x_iconst C (v := 0) dX12_isHen_29 (by decide) rfl ?_
        exact x_zret C hr hlk rfl dX12_isHen_30 ⟨rfl, (Or.inl rfl), (fun q => absurd rfl q)⟩
      · skip
        refine x_iconst C (v := 1) dX12_isHen_25 (by decide) rfl ?_
        refine x_goto C (tgt := 30) dX12_isHen_26 (by decide) ?_
        exact x_zret C hr hlk rfl dX12_isHen_30 ⟨rfl, (Or.inr rfl), (fun _ => wth_n (a := 0) (b := 7) (by omega) (by omega) (by decide))⟩
theorem dX12_isWork_0 : decode cX12_isWork 0 = .ok (.iload_n 1, 1) := by decide +kernel
theorem dX12_isWork_1 : decode cX12_isWork 1 = .ok (.ifCond .lt 28, 3) := by decide +kernel
theorem dX12_isWork_4 : decode cX12_isWork 4 = .ok (.iload_n 1, 1) := by decide +kernel
theorem dX12_isWork_5 : decode cX12_isWork 5 = .ok (.bipush 8, 2) := by decide +kernel
theorem dX12_isWork_7 : decode cX12_isWork 7 = .ok (.if_icmp .ge 22, 3) := by decide +kernel
theorem dX12_isWork_10 : decode cX12_isWork 10 = .ok (.aload_n 0, 1) := by decide +kernel
theorem dX12_isWork_11 : decode cX12_isWork 11 = .ok (.getfield 7, 3) := by decide +kernel
theorem dX12_isWork_14 : decode cX12_isWork 14 = .ok (.sipush 378, 3) := by decide +kernel
theorem dX12_isWork_17 : decode cX12_isWork 17 = .ok (.iaload, 1) := by decide +kernel
theorem dX12_isWork_18 : decode cX12_isWork 18 = .ok (.iload_n 1, 1) := by decide +kernel
theorem dX12_isWork_19 : decode cX12_isWork 19 = .ok (.invokestatic 101, 3) := by decide +kernel
theorem dX12_isWork_22 : decode cX12_isWork 22 = .ok (.ifCond .eq 7, 3) := by decide +kernel
theorem dX12_isWork_25 : decode cX12_isWork 25 = .ok (.iconst 1, 1) := by decide +kernel
theorem dX12_isWork_26 : decode cX12_isWork 26 = .ok (.goto 4, 3) := by decide +kernel
theorem dX12_isWork_29 : decode cX12_isWork 29 = .ok (.iconst 0, 1) := by decide +kernel
theorem dX12_isWork_30 : decode cX12_isWork 30 = .ok (.ireturn, 1) := by decide +kernel
set_option maxRecDepth 20000 in
set_option maxHeartbeats 4000000 in
theorem m_isWork (E : xE) (l : Launch) (a : Nat → Nat) (cd : Cd) (hG : Good cd) (ws : va_W) (hW : WX (okM E a cd) ws) (p0 : Int32) : xI E l yX12_isWork cX12_isWork 2 (some .boolean) 1 [.ref (a 0), .int p0] ws (fun r w => w = ws ∧ zb r ∧ (¬ r = 0 → wth p0 0 7)) := by
  refine xI_start (lv := [(0, .ref (a 0)), (1, .int p0)]) RX12 (by decide) rfl (Nat.le_of_ble_eq_true rfl) rfl (fun p e s m below meth c A C hr hlk => ?_)
  refine x_iload_n C dX12_isWork_0 rfl 1 rfl rfl ?_
  refine x_if_lt C (tgt := 29) dX12_isWork_1 (by decide) rfl (fun c1 => ?_) (fun c1 => ?_)
  · skip
    refine x_iconst C (v := 0) dX12_isWork_29 (by decide) rfl ?_
    exact x_zret C hr hlk rfl dX12_isWork_30 ⟨rfl, (Or.inl rfl), (fun q => absurd rfl q)⟩
  · skip
    obtain ⟨j2, hj3, ej4⟩ := nI_of c1
    subst ej4
    refine x_iload_n C dX12_isWork_4 rfl 1 rfl rfl ?_
    refine x_bipush C (v := 8) dX12_isWork_5 (by decide) rfl ?_
    refine x_icmp_ge C (tgt := 29) dX12_isWork_7 (by decide) rfl (fun c5 => ?_) (fun c5 => ?_)
    · skip
      have nf6 := nI_le' (a := 8) (b := j2) c5 (by omega) (by omega)
      refine x_iconst C (v := 0) dX12_isWork_29 (by decide) rfl ?_
      exact x_zret C hr hlk rfl dX12_isWork_30 ⟨rfl, (Or.inl rfl), (fun q => absurd rfl q)⟩
    · skip
      have nf7 := nI_nle' (a := 8) (b := j2) c5 (by omega) (by omega)
      refine x_aload_n C dX12_isWork_10 rfl 0 rfl rfl ?_
      obtain ⟨_, k8, n9, n11, n13, v15, v16, v17, n18, n20, n22, n24, v26, v27, v28, v29, n30, n32, v34, bn10, bn12, bn14, bn19, bn21, bn23, bn25, bn31, bn33, zv35, rfl⟩ := hW 0 _ rfl
      refine x_get C (ci := 11) (k := 0) 0 k8 rfl in_X12 (by decide) w_1118 rfl dX12_isWork_11 rfl ?_
      refine x_sipush C (v := 378) dX12_isWork_14 (by decide) rfl ?_
      obtain ⟨_, k36, f37, pf38, rfl⟩ := hW 1 _ rfl
      refine x_iald C (v := (f37 (378 : Int32).toNatClampNeg)) 1 k36 (vp_k (j := 378) (by decide) (by decide) (by decide)) rfl dX12_isWork_17 rfl ?_
      refine x_any (fun v39 => ?_)
      refine x_iload_n C dX12_isWork_18 rfl 1 rfl rfl ?_
      refine x_si C (As := [.int v39, .int (nI j2)]) (rest := []) (m_has E l a cd hG ws hW v39 ((nI j2))) mf_X12_has w_1274 rfl rfl (Nat.le_of_ble_eq_true rfl) ⟨(Nat.le_of_ble_eq_true rfl), (Nat.le_of_ble_eq_true rfl)⟩ ⟨(Nat.le_of_ble_eq_true rfl), (Nat.le_of_ble_eq_true rfl)⟩ dX12_isWork_19 rfl (fun r41 w42 h40 => ?_)
      obtain ⟨hW43, zb44, x45⟩ := h40
      refine x_ws hW43 ?_
      refine x_if_eq C (tgt := 29) dX12_isWork_22 (by decide) rfl (fun c46 => ?_) (fun c46 => ?_)
      · skip
        refine x_iconst C (v := 0) dX12_isWork_29 (by decide) rfl ?_
        exact x_zret C hr hlk rfl dX12_isWork_30 ⟨rfl, (Or.inl rfl), (fun q => absurd rfl q)⟩
      · skip
        refine x_iconst C (v := 1) dX12_isWork_25 (by decide) rfl ?_
        refine x_goto C (tgt := 30) dX12_isWork_26 (by decide) ?_
        exact x_zret C hr hlk rfl dX12_isWork_30 ⟨rfl, (Or.inr rfl), (fun _ => wth_n (a := 0) (b := 7) (by omega) (by omega) (by decide))⟩
theorem dX12_isEgg_0 : decode cX12_isEgg 0 = .ok (.iload_n 1, 1) := by decide +kernel
theorem dX12_isEgg_1 : decode cX12_isEgg 1 = .ok (.ifCond .lt 19, 3) := by decide +kernel
theorem dX12_isEgg_4 : decode cX12_isEgg 4 = .ok (.iload_n 1, 1) := by decide +kernel
theorem dX12_isEgg_5 : decode cX12_isEgg 5 = .ok (.aload_n 0, 1) := by decide +kernel
theorem dX12_isEgg_6 : decode cX12_isEgg 6 = .ok (.getfield 7, 3) := by decide +kernel
theorem dX12_isEgg_9 : decode cX12_isEgg 9 = .ok (.sipush 381, 3) := by decide +kernel
theorem dX12_isEgg_12 : decode cX12_isEgg 12 = .ok (.iaload, 1) := by decide +kernel
theorem dX12_isEgg_13 : decode cX12_isEgg 13 = .ok (.if_icmp .ge 7, 3) := by decide +kernel
theorem dX12_isEgg_16 : decode cX12_isEgg 16 = .ok (.iconst 1, 1) := by decide +kernel
theorem dX12_isEgg_17 : decode cX12_isEgg 17 = .ok (.goto 4, 3) := by decide +kernel
theorem dX12_isEgg_20 : decode cX12_isEgg 20 = .ok (.iconst 0, 1) := by decide +kernel
theorem dX12_isEgg_21 : decode cX12_isEgg 21 = .ok (.ireturn, 1) := by decide +kernel
set_option maxRecDepth 20000 in
set_option maxHeartbeats 4000000 in
theorem m_isEgg (E : xE) (l : Launch) (a : Nat → Nat) (cd : Cd) (hG : Good cd) (ws : va_W) (hW : WX (okM E a cd) ws) (p0 : Int32) : xI E l yX12_isEgg cX12_isEgg 2 (some .boolean) 0 [.ref (a 0), .int p0] ws (fun r w => w = ws ∧ zb r ∧ (¬ r = 0 → wth p0 0 47)) := by
  refine xI_start (lv := [(0, .ref (a 0)), (1, .int p0)]) RX12 (by decide) rfl (Nat.le_of_ble_eq_true rfl) rfl (fun p e s m below meth c A C hr hlk => ?_)
  refine x_iload_n C dX12_isEgg_0 rfl 1 rfl rfl ?_
  refine x_if_lt C (tgt := 20) dX12_isEgg_1 (by decide) rfl (fun c1 => ?_) (fun c1 => ?_)
  · skip
    refine x_iconst C (v := 0) dX12_isEgg_20 (by decide) rfl ?_
    exact x_zret C hr hlk rfl dX12_isEgg_21 ⟨rfl, (Or.inl rfl), (fun q => absurd rfl q)⟩
  · skip
    obtain ⟨j2, hj3, ej4⟩ := nI_of c1
    subst ej4
    refine x_iload_n C dX12_isEgg_4 rfl 1 rfl rfl ?_
    refine x_aload_n C dX12_isEgg_5 rfl 0 rfl rfl ?_
    obtain ⟨_, k5, n6, n8, n10, v12, v13, v14, n15, n17, n19, n21, v23, v24, v25, v26, n27, n29, v31, bn7, bn9, bn11, bn16, bn18, bn20, bn22, bn28, bn30, zv32, rfl⟩ := hW 0 _ rfl
    refine x_get C (ci := 11) (k := 0) 0 k5 rfl in_X12 (by decide) w_1118 rfl dX12_isEgg_6 rfl ?_
    refine x_sipush C (v := 381) dX12_isEgg_9 (by decide) rfl ?_
    obtain ⟨_, k33, f34, pf35, rfl⟩ := hW 1 _ rfl
    obtain ⟨n36, hn37, en38⟩ := NB_many pf35
    refine x_ialk C (v := nI n36) 381 (by decide) (by decide) (by decide) 1 k33 en38 dX12_isEgg_12 rfl ?_
    refine x_icmp_ge C (tgt := 20) dX12_isEgg_13 (by decide) rfl (fun c39 => ?_) (fun c39 => ?_)
    · skip
      have nf40 := nI_le' (a := n36) (b := j2) c39 (by omega) (by omega)
      refine x_iconst C (v := 0) dX12_isEgg_20 (by decide) rfl ?_
      exact x_zret C hr hlk rfl dX12_isEgg_21 ⟨rfl, (Or.inl rfl), (fun q => absurd rfl q)⟩
    · skip
      have nf41 := nI_nle' (a := n36) (b := j2) c39 (by omega) (by omega)
      refine x_iconst C (v := 1) dX12_isEgg_16 (by decide) rfl ?_
      refine x_goto C (tgt := 21) dX12_isEgg_17 (by decide) ?_
      exact x_zret C hr hlk rfl dX12_isEgg_21 ⟨rfl, (Or.inr rfl), (fun _ => wth_n (a := 0) (b := 47) (by omega) (by omega) (by decide))⟩
theorem dX12_isWhole_0 : decode cX12_isWhole 0 = .ok (.aload_n 0, 1) := by decide +kernel
theorem dX12_isWhole_1 : decode cX12_isWhole 1 = .ok (.iload_n 1, 1) := by decide +kernel
theorem dX12_isWhole_2 : decode cX12_isWhole 2 = .ok (.invokevirtual 105, 3) := by decide +kernel
theorem dX12_isWhole_5 : decode cX12_isWhole 5 = .ok (.ifCond .eq 20, 3) := by decide +kernel
theorem dX12_isWhole_8 : decode cX12_isWhole 8 = .ok (.aload_n 0, 1) := by decide +kernel
theorem dX12_isWhole_9 : decode cX12_isWhole 9 = .ok (.getfield 7, 3) := by decide +kernel
theorem dX12_isWhole_12 : decode cX12_isWhole 12 = .ok (.sipush 240, 3) := by decide +kernel
theorem dX12_isWhole_15 : decode cX12_isWhole 15 = .ok (.iload_n 1, 1) := by decide +kernel
theorem dX12_isWhole_16 : decode cX12_isWhole 16 = .ok (.iadd, 1) := by decide +kernel
theorem dX12_isWhole_17 : decode cX12_isWhole 17 = .ok (.iaload, 1) := by decide +kernel
theorem dX12_isWhole_18 : decode cX12_isWhole 18 = .ok (.ifCond .ne 7, 3) := by decide +kernel
theorem dX12_isWhole_21 : decode cX12_isWhole 21 = .ok (.iconst 1, 1) := by decide +kernel
theorem dX12_isWhole_22 : decode cX12_isWhole 22 = .ok (.goto 4, 3) := by decide +kernel
theorem dX12_isWhole_25 : decode cX12_isWhole 25 = .ok (.iconst 0, 1) := by decide +kernel
theorem dX12_isWhole_26 : decode cX12_isWhole 26 = .ok (.ireturn, 1) := by decide +kernel
set_option maxRecDepth 20000 in
set_option maxHeartbeats 4000000 in
theorem m_isWhole (E : xE) (l : Launch) (a : Nat → Nat) (cd : Cd) (hG : Good cd) (ws : va_W) (hW : WX (okM E a cd) ws) (p0 : Int32) : xI E l yX12_isWhole cX12_isWhole 2 (some .boolean) 1 [.ref (a 0), .int p0] ws (fun r w => w = ws ∧ zb r ∧ (¬ r = 0 → wth p0 0 47)) := by
  refine xI_start (lv := [(0, .ref (a 0)), (1, .int p0)]) RX12 (by decide) rfl (Nat.le_of_ble_eq_true rfl) rfl (fun p e s m below meth c A C hr hlk => ?_)
  refine x_aload_n C dX12_isWhole_0 rfl 0 rfl rfl ?_
  refine x_iload_n C dX12_isWhole_1 rfl 1 rfl rfl ?_
  obtain ⟨_, k1, n2, n4, n6, v8, v9, v10, n11, n13, n15, n17, v19, v20, v21, v22, n23, n25, v27, bn3, bn5, bn7, bn12, bn14, bn16, bn18, bn24, bn26, zv28, rfl⟩ := hW 0 _ rfl
  refine x_vi C (As := [.int p0]) (rest := []) (m_isEgg E l a cd hG ws hW p0) mf_X12_isEgg w_1439 0 k1 rfl rfl rfl (Nat.le_of_ble_eq_true rfl) ⟨(Nat.le_of_ble_eq_true rfl), (Nat.le_of_ble_eq_true rfl)⟩ ⟨(Nat.le_of_ble_eq_true rfl), (Nat.le_of_ble_eq_true rfl)⟩ dX12_isWhole_2 rfl (fun r30 w31 h29 => ?_)
  obtain ⟨hW32, zb33, x34⟩ := h29
  refine x_ws hW32 ?_
  refine x_if_eq C (tgt := 25) dX12_isWhole_5 (by decide) rfl (fun c35 => ?_) (fun c35 => ?_)
  · skip
    refine x_iconst C (v := 0) dX12_isWhole_25 (by decide) rfl ?_
    exact x_zret C hr hlk rfl dX12_isWhole_26 ⟨rfl, (Or.inl rfl), (fun q => absurd rfl q)⟩
  · skip
    obtain ⟨j36, hl37, hh38, ej39⟩ := w_nat (a := 0) (b := 47) (by decide) (by decide) (x34 c35)
    subst ej39
    refine x_aload_n C dX12_isWhole_8 rfl 0 rfl rfl ?_
    refine x_get C (ci := 11) (k := 0) 0 k1 rfl in_X12 (by decide) w_1118 rfl dX12_isWhole_9 rfl ?_
    refine x_sipush C (v := 240) dX12_isWhole_12 (by decide) rfl ?_
    refine x_iload_n C dX12_isWhole_15 rfl 1 rfl rfl ?_
    refine x_iadd C (v := (nI (240 + j36))) dX12_isWhole_16 (nI_add 240 j36) rfl ?_
    obtain ⟨_, k40, f41, pf42, rfl⟩ := hW 1 _ rfl
    refine x_iald C (v := (f41 (nI (240 + j36)).toNatClampNeg)) 1 k40 (vp_in_nI (by omega) (by decide)) rfl dX12_isWhole_17 rfl ?_
    refine x_any (fun v43 => ?_)
    refine x_if_ne C (tgt := 25) dX12_isWhole_18 (by decide) rfl (fun c44 => ?_) (fun c44 => ?_)
    · skip
      refine x_iconst C (v := 0) dX12_isWhole_25 (by decide) rfl ?_
      exact x_zret C hr hlk rfl dX12_isWhole_26 ⟨rfl, (Or.inl rfl), (fun q => absurd rfl q)⟩
    · skip
      refine x_iconst C (v := 1) dX12_isWhole_21 (by decide) rfl ?_
      refine x_goto C (tgt := 26) dX12_isWhole_22 (by decide) ?_
      exact x_zret C hr hlk rfl dX12_isWhole_26 ⟨rfl, (Or.inr rfl), (fun _ => wth_n (a := 0) (b := 47) (by omega) (by omega) (by decide))⟩
theorem dX12_isDone_0 : decode cX12_isDone 0 = .ok (.aload_n 0, 1) := by decide +kernel
theorem dX12_isDone_1 : decode cX12_isDone 1 = .ok (.getfield 7, 3) := by decide +kernel
theorem dX12_isDone_4 : decode cX12_isDone 4 = .ok (.sipush 346, 3) := by decide +kernel
theorem dX12_isDone_7 : decode cX12_isDone 7 = .ok (.iload_n 1, 1) := by decide +kernel
theorem dX12_isDone_8 : decode cX12_isDone 8 = .ok (.iadd, 1) := by decide +kernel
theorem dX12_isDone_9 : decode cX12_isDone 9 = .ok (.iaload, 1) := by decide +kernel
theorem dX12_isDone_10 : decode cX12_isDone 10 = .ok (.aload_n 0, 1) := by decide +kernel
theorem dX12_isDone_11 : decode cX12_isDone 11 = .ok (.getfield 7, 3) := by decide +kernel
theorem dX12_isDone_14 : decode cX12_isDone 14 = .ok (.sipush 338, 3) := by decide +kernel
theorem dX12_isDone_17 : decode cX12_isDone 17 = .ok (.iload_n 1, 1) := by decide +kernel
theorem dX12_isDone_18 : decode cX12_isDone 18 = .ok (.iadd, 1) := by decide +kernel
theorem dX12_isDone_19 : decode cX12_isDone 19 = .ok (.iaload, 1) := by decide +kernel
theorem dX12_isDone_20 : decode cX12_isDone 20 = .ok (.if_icmp .ne 7, 3) := by decide +kernel
theorem dX12_isDone_23 : decode cX12_isDone 23 = .ok (.iconst 1, 1) := by decide +kernel
theorem dX12_isDone_24 : decode cX12_isDone 24 = .ok (.goto 4, 3) := by decide +kernel
theorem dX12_isDone_27 : decode cX12_isDone 27 = .ok (.iconst 0, 1) := by decide +kernel
theorem dX12_isDone_28 : decode cX12_isDone 28 = .ok (.ireturn, 1) := by decide +kernel
set_option maxRecDepth 20000 in
set_option maxHeartbeats 4000000 in
theorem m_isDone (E : xE) (l : Launch) (a : Nat → Nat) (cd : Cd) (hG : Good cd) (ws : va_W) (hW : WX (okM E a cd) ws) (i0 : Nat) (hi0 : i0 ≤ 7) : xI E l yX12_isDone cX12_isDone 2 (some .boolean) 0 [.ref (a 0), .int (nI i0)] ws (fun r w => w = ws ∧ zb r) := by
  refine xI_start (lv := [(0, .ref (a 0)), (1, .int (nI i0))]) RX12 (by decide) rfl (Nat.le_of_ble_eq_true rfl) rfl (fun p e s m below meth c A C hr hlk => ?_)
  refine x_aload_n C dX12_isDone_0 rfl 0 rfl rfl ?_
  obtain ⟨_, k1, n2, n4, n6, v8, v9, v10, n11, n13, n15, n17, v19, v20, v21, v22, n23, n25, v27, bn3, bn5, bn7, bn12, bn14, bn16, bn18, bn24, bn26, zv28, rfl⟩ := hW 0 _ rfl
  refine x_get C (ci := 11) (k := 0) 0 k1 rfl in_X12 (by decide) w_1118 rfl dX12_isDone_1 rfl ?_
  refine x_sipush C (v := 346) dX12_isDone_4 (by decide) rfl ?_
  refine x_iload_n C dX12_isDone_7 rfl 1 rfl rfl ?_
  refine x_iadd C (v := (nI (346 + i0))) dX12_isDone_8 (nI_add 346 i0) rfl ?_
  obtain ⟨_, k29, f30, pf31, rfl⟩ := hW 1 _ rfl
  refine x_iald C (v := (f30 (nI (346 + i0)).toNatClampNeg)) 1 k29 (vp_in_nI (by omega) (by decide)) rfl dX12_isDone_9 rfl ?_
  refine x_any (fun v32 => ?_)
  refine x_aload_n C dX12_isDone_10 rfl 0 rfl rfl ?_
  refine x_get C (ci := 11) (k := 0) 0 k1 rfl in_X12 (by decide) w_1118 rfl dX12_isDone_11 rfl ?_
  refine x_sipush C (v := 338) dX12_isDone_14 (by decide) rfl ?_
  refine x_iload_n C dX12_isDone_17 rfl 1 rfl rfl ?_
  refine x_iadd C (v := (nI (338 + i0))) dX12_isDone_18 (nI_add 338 i0) rfl ?_
  refine x_iald C (v := (f30 (nI (338 + i0)).toNatClampNeg)) 1 k29 (vp_in_nI (by omega) (by decide)) rfl dX12_isDone_19 rfl ?_
  refine x_any (fun v33 => ?_)
  refine x_icmp_ne C (tgt := 27) dX12_isDone_20 (by decide) rfl (fun c34 => ?_) (fun c34 => ?_)
  · skip
    refine x_iconst C (v := 0) dX12_isDone_27 (by decide) rfl ?_
    exact x_zret C hr hlk rfl dX12_isDone_28 ⟨rfl, (Or.inl rfl)⟩
  · skip
    refine x_iconst C (v := 1) dX12_isDone_23 (by decide) rfl ?_
    refine x_goto C (tgt := 28) dX12_isDone_24 (by decide) ?_
    exact x_zret C hr hlk rfl dX12_isDone_28 ⟨rfl, (Or.inr rfl)⟩
theorem dX12_person_0 : decode cX12_person 0 = .ok (.iload_n 1, 1) := by decide +kernel
theorem dX12_person_1 : decode cX12_person 1 = .ok (.iconst 0, 1) := by decide +kernel
theorem dX12_person_2 : decode cX12_person 2 = .ok (.bipush 7, 2) := by decide +kernel
theorem dX12_person_4 : decode cX12_person 4 = .ok (.invokestatic 109, 3) := by decide +kernel
theorem dX12_person_7 : decode cX12_person 7 = .ok (.ifCond .eq 11, 3) := by decide +kernel
theorem dX12_person_10 : decode cX12_person 10 = .ok (.aload_n 0, 1) := by decide +kernel
theorem dX12_person_11 : decode cX12_person 11 = .ok (.iload_n 1, 1) := by decide +kernel
theorem dX12_person_12 : decode cX12_person 12 = .ok (.invokevirtual 113, 3) := by decide +kernel
theorem dX12_person_15 : decode cX12_person 15 = .ok (.ifCond .eq 5, 3) := by decide +kernel
theorem dX12_person_18 : decode cX12_person 18 = .ok (.iconst 0, 1) := by decide +kernel
theorem dX12_person_19 : decode cX12_person 19 = .ok (.ireturn, 1) := by decide +kernel
theorem dX12_person_20 : decode cX12_person 20 = .ok (.aload_n 0, 1) := by decide +kernel
theorem dX12_person_21 : decode cX12_person 21 = .ok (.getfield 7, 3) := by decide +kernel
theorem dX12_person_24 : decode cX12_person 24 = .ok (.sipush 320, 3) := by decide +kernel
theorem dX12_person_27 : decode cX12_person 27 = .ok (.aload_n 0, 1) := by decide +kernel
theorem dX12_person_28 : decode cX12_person 28 = .ok (.getfield 7, 3) := by decide +kernel
theorem dX12_person_31 : decode cX12_person 31 = .ok (.sipush 320, 3) := by decide +kernel
theorem dX12_person_34 : decode cX12_person 34 = .ok (.iaload, 1) := by decide +kernel
theorem dX12_person_35 : decode cX12_person 35 = .ok (.iconst 1, 1) := by decide +kernel
theorem dX12_person_36 : decode cX12_person 36 = .ok (.iload_n 1, 1) := by decide +kernel
theorem dX12_person_37 : decode cX12_person 37 = .ok (.ishl, 1) := by decide +kernel
theorem dX12_person_38 : decode cX12_person 38 = .ok (.ior, 1) := by decide +kernel
theorem dX12_person_39 : decode cX12_person 39 = .ok (.iastore, 1) := by decide +kernel
theorem dX12_person_40 : decode cX12_person 40 = .ok (.iconst 1, 1) := by decide +kernel
theorem dX12_person_41 : decode cX12_person 41 = .ok (.ireturn, 1) := by decide +kernel
set_option maxRecDepth 20000 in
set_option maxHeartbeats 4000000 in
theorem m_person (E : xE) (l : Launch) (a : Nat → Nat) (cd : Cd) (hG : Good cd) (ws : va_W) (hW : WX (okM E a cd) ws) (p0 : Int32) : xI E l yX12_person cX12_person 2 (some .boolean) 8 [.ref (a 0), .int p0] ws (fun r w => WX (okM E a cd) w ∧ zb r) := by
  refine xI_start (lv := [(0, .ref (a 0)), (1, .int p0)]) RX12 (by decide) rfl (Nat.le_of_ble_eq_true rfl) rfl (fun p e s m below meth c A C hr hlk => ?_)
  refine x_iload_n C dX12_person_0 rfl 1 rfl rfl ?_
  refine x_iconst C (v := 0) dX12_person_1 (by decide) rfl ?_
  refine x_bipush C (v := 7) dX12_person_2 (by decide) rfl ?_
  refine x_si C (As := [.int p0, .int 0, .int 7]) (rest := []) (m_in E l a cd hG ws hW p0 (0 : Int32) (7 : Int32)) mf_X12_in w_1267 rfl rfl (Nat.le_of_ble_eq_true rfl) ⟨(Nat.le_of_ble_eq_true rfl), (Nat.le_of_ble_eq_true rfl)⟩ ⟨(Nat.le_of_ble_eq_true rfl), (Nat.le_of_ble_eq_true rfl)⟩ dX12_person_4 rfl (fun r2 w3 h1 => ?_)
  obtain ⟨hW4, zb5, x6⟩ := h1
  refine x_ws hW4 ?_
  refine x_if_eq C (tgt := 18) dX12_person_7 (by decide) rfl (fun c7 => ?_) (fun c7 => ?_)
  · skip
    refine x_iconst C (v := 0) dX12_person_18 (by decide) rfl ?_
    exact x_zret C hr hlk rfl dX12_person_19 ⟨hW, (Or.inl rfl)⟩
  · skip
    obtain ⟨j8, hl9, hh10, ej11⟩ := w_nat (a := 0) (b := 7) (by decide) (by decide) (x6 c7)
    subst ej11
    refine x_aload_n C dX12_person_10 rfl 0 rfl rfl ?_
    refine x_iload_n C dX12_person_11 rfl 1 rfl rfl ?_
    obtain ⟨_, k12, n13, n15, n17, v19, v20, v21, n22, n24, n26, n28, v30, v31, v32, v33, n34, n36, v38, bn14, bn16, bn18, bn23, bn25, bn27, bn29, bn35, bn37, zv39, rfl⟩ := hW 0 _ rfl
    refine x_vi C (As := [.int (nI j8)]) (rest := []) (m_isPerson E l a cd hG ws hW ((nI j8))) mf_X12_isPerson w_1270 0 k12 rfl rfl rfl (Nat.le_of_ble_eq_true rfl) ⟨(Nat.le_of_ble_eq_true rfl), (Nat.le_of_ble_eq_true rfl)⟩ ⟨(Nat.le_of_ble_eq_true rfl), (Nat.le_of_ble_eq_true rfl)⟩ dX12_person_12 rfl (fun r41 w42 h40 => ?_)
    obtain ⟨hW43, zb44, x45⟩ := h40
    refine x_ws hW43 ?_
    refine x_if_eq C (tgt := 20) dX12_person_15 (by decide) rfl (fun c46 => ?_) (fun c46 => ?_)
    · skip
      refine x_aload_n C dX12_person_20 rfl 0 rfl rfl ?_
      refine x_get C (ci := 11) (k := 0) 0 k12 rfl in_X12 (by decide) w_1118 rfl dX12_person_21 rfl ?_
      refine x_sipush C (v := 320) dX12_person_24 (by decide) rfl ?_
      refine x_aload_n C dX12_person_27 rfl 0 rfl rfl ?_
      refine x_get C (ci := 11) (k := 0) 0 k12 rfl in_X12 (by decide) w_1118 rfl dX12_person_28 rfl ?_
      refine x_sipush C (v := 320) dX12_person_31 (by decide) rfl ?_
      obtain ⟨_, k47, f48, pf49, rfl⟩ := hW 1 _ rfl
      refine x_iald C (v := (f48 (320 : Int32).toNatClampNeg)) 1 k47 (vp_k (j := 320) (by decide) (by decide) (by decide)) rfl dX12_person_34 rfl ?_
      refine x_any (fun v50 => ?_)
      refine x_iconst C (v := 1) dX12_person_35 (by decide) rfl ?_
      refine x_iload_n C dX12_person_36 rfl 1 rfl rfl ?_
      refine x_ishl C (v := ((1 : Int32) <<< ((nI j8) &&& 31))) dX12_person_37 rfl rfl ?_
      refine x_any (fun v51 => ?_)
      refine x_ior C (v := (v50 ||| v51)) dX12_person_38 rfl rfl ?_
      refine x_any (fun v52 => ?_)
      have pf53 : NB (upd f48 320 v52) := NB_free pf49 (by unfold bd; omega)
      obtain ⟨w54, hw55⟩ : ∃ w : va_W, w = List.set ws 1 (iA E (a 1) 382 (upd f48 320 v52)) := ⟨_, rfl⟩
      refine x_iask C 320 (by decide) (by decide) (by decide) 1 k47 hw55.symm dX12_person_39 rfl ?_
      have hW56 : WX (okM E a cd) w54 := by rw [hw55]; exact hW.set (k := 1) rfl ⟨_, pf53, rfl⟩
      have k57 : w54[0]? = some (ob (a 0) 11 [.ref (a 1), .ref (a 2), .ref (a 3), .ref (a 4), .int (nI n13), .int (nI n15), .int (nI n17), .int v19, .int v20, .int v21, .int (nI n22), .int (nI n24), .int (nI n26), .int (nI (cd.2.2.2.2.2)), .ref (a 5), .ref (a 6), .ref (a 7), .ref (a 8), .ref (a 9), .ref (a 10), .ref (a 11), .ref (a 12), .ref (a 13), .ref (a 14), .ref (a 15), .ref (a 16), .ref (a 17), .int (nI n28), .ref (a 18), .ref (a 19), .ref (a 20), .ref (a 21), .int v30, .int v31, .int v32, .int v33, .int (nI n34), .int (nI n36), .ref (a 22), .ref (a 23), .ref (a 24), .ref (a 25), .ref (a 26), .ref (a 27), .ref (a 28), .ref (a 29), .ref (a 30), .int v38]) := by rw [hw55]; exact set_ne k12 (by decide)
      have k58 : w54[1]? = some (iA E (a 1) 382 (upd f48 320 v52)) := by rw [hw55]; exact set_eq k47
      refine x_iconst C (v := 1) dX12_person_40 (by decide) rfl ?_
      exact x_zret C hr hlk rfl dX12_person_41 ⟨hW56, (Or.inr rfl)⟩
    · skip
      have wi59 := wth_le (a := 0) (b := 7) (j := j8) (x45 c46) (by omega) (by decide) (by decide)
      refine x_iconst C (v := 0) dX12_person_18 (by decide) rfl ?_
      exact x_zret C hr hlk rfl dX12_person_19 ⟨hW, (Or.inl rfl)⟩
theorem dX12_hen_0 : decode cX12_hen 0 = .ok (.iload_n 1, 1) := by decide +kernel
theorem dX12_hen_1 : decode cX12_hen 1 = .ok (.iconst 0, 1) := by decide +kernel
theorem dX12_hen_2 : decode cX12_hen 2 = .ok (.bipush 7, 2) := by decide +kernel
theorem dX12_hen_4 : decode cX12_hen 4 = .ok (.invokestatic 109, 3) := by decide +kernel
theorem dX12_hen_7 : decode cX12_hen 7 = .ok (.ifCond .eq 20, 3) := by decide +kernel
theorem dX12_hen_10 : decode cX12_hen 10 = .ok (.iload_n 2, 1) := by decide +kernel
theorem dX12_hen_11 : decode cX12_hen 11 = .ok (.iconst 0, 1) := by decide +kernel
theorem dX12_hen_12 : decode cX12_hen 12 = .ok (.iconst 3, 1) := by decide +kernel
theorem dX12_hen_13 : decode cX12_hen 13 = .ok (.invokestatic 109, 3) := by decide +kernel
theorem dX12_hen_16 : decode cX12_hen 16 = .ok (.ifCond .eq 11, 3) := by decide +kernel
theorem dX12_hen_19 : decode cX12_hen 19 = .ok (.aload_n 0, 1) := by decide +kernel
theorem dX12_hen_20 : decode cX12_hen 20 = .ok (.iload_n 3, 1) := by decide +kernel
theorem dX12_hen_21 : decode cX12_hen 21 = .ok (.invokevirtual 113, 3) := by decide +kernel
theorem dX12_hen_24 : decode cX12_hen 24 = .ok (.ifCond .ne 5, 3) := by decide +kernel
theorem dX12_hen_27 : decode cX12_hen 27 = .ok (.iconst 0, 1) := by decide +kernel
theorem dX12_hen_28 : decode cX12_hen 28 = .ok (.ireturn, 1) := by decide +kernel
theorem dX12_hen_29 : decode cX12_hen 29 = .ok (.aload_n 0, 1) := by decide +kernel
theorem dX12_hen_30 : decode cX12_hen 30 = .ok (.getfield 7, 3) := by decide +kernel
theorem dX12_hen_33 : decode cX12_hen 33 = .ok (.sipush 337, 3) := by decide +kernel
theorem dX12_hen_36 : decode cX12_hen 36 = .ok (.aload_n 0, 1) := by decide +kernel
theorem dX12_hen_37 : decode cX12_hen 37 = .ok (.getfield 7, 3) := by decide +kernel
theorem dX12_hen_40 : decode cX12_hen 40 = .ok (.sipush 337, 3) := by decide +kernel
theorem dX12_hen_43 : decode cX12_hen 43 = .ok (.iaload, 1) := by decide +kernel
theorem dX12_hen_44 : decode cX12_hen 44 = .ok (.iconst 1, 1) := by decide +kernel
theorem dX12_hen_45 : decode cX12_hen 45 = .ok (.iload_n 1, 1) := by decide +kernel
theorem dX12_hen_46 : decode cX12_hen 46 = .ok (.ishl, 1) := by decide +kernel
theorem dX12_hen_47 : decode cX12_hen 47 = .ok (.ior, 1) := by decide +kernel
theorem dX12_hen_48 : decode cX12_hen 48 = .ok (.iastore, 1) := by decide +kernel
theorem dX12_hen_49 : decode cX12_hen 49 = .ok (.aload_n 0, 1) := by decide +kernel
theorem dX12_hen_50 : decode cX12_hen 50 = .ok (.getfield 7, 3) := by decide +kernel
theorem dX12_hen_53 : decode cX12_hen 53 = .ok (.sipush 321, 3) := by decide +kernel
theorem dX12_hen_56 : decode cX12_hen 56 = .ok (.iload_n 1, 1) := by decide +kernel
theorem dX12_hen_57 : decode cX12_hen 57 = .ok (.iadd, 1) := by decide +kernel
theorem dX12_hen_58 : decode cX12_hen 58 = .ok (.iload_n 2, 1) := by decide +kernel
theorem dX12_hen_59 : decode cX12_hen 59 = .ok (.iastore, 1) := by decide +kernel
theorem dX12_hen_60 : decode cX12_hen 60 = .ok (.aload_n 0, 1) := by decide +kernel
theorem dX12_hen_61 : decode cX12_hen 61 = .ok (.getfield 7, 3) := by decide +kernel
theorem dX12_hen_64 : decode cX12_hen 64 = .ok (.sipush 329, 3) := by decide +kernel
theorem dX12_hen_67 : decode cX12_hen 67 = .ok (.iload_n 1, 1) := by decide +kernel
theorem dX12_hen_68 : decode cX12_hen 68 = .ok (.iadd, 1) := by decide +kernel
theorem dX12_hen_69 : decode cX12_hen 69 = .ok (.iload_n 3, 1) := by decide +kernel
theorem dX12_hen_70 : decode cX12_hen 70 = .ok (.iastore, 1) := by decide +kernel
theorem dX12_hen_71 : decode cX12_hen 71 = .ok (.iconst 1, 1) := by decide +kernel
theorem dX12_hen_72 : decode cX12_hen 72 = .ok (.ireturn, 1) := by decide +kernel
set_option maxRecDepth 20000 in
set_option maxHeartbeats 4000000 in
theorem m_hen (E : xE) (l : Launch) (a : Nat → Nat) (cd : Cd) (hG : Good cd) (ws : va_W) (hW : WX (okM E a cd) ws) (p0 : Int32) (p1 : Int32) (p2 : Int32) : xI E l yX12_hen cX12_hen 4 (some .boolean) 8 [.ref (a 0), .int p0, .int p1, .int p2] ws (fun r w => WX (okM E a cd) w ∧ zb r) := by
  refine xI_start (lv := [(0, .ref (a 0)), (1, .int p0), (2, .int p1), (3, .int p2)]) RX12 (by decide) rfl (Nat.le_of_ble_eq_true rfl) rfl (fun p e s m below meth c A C hr hlk => ?_)
  refine x_iload_n C dX12_hen_0 rfl 1 rfl rfl ?_
  refine x_iconst C (v := 0) dX12_hen_1 (by decide) rfl ?_
  refine x_bipush C (v := 7) dX12_hen_2 (by decide) rfl ?_
  refine x_si C (As := [.int p0, .int 0, .int 7]) (rest := []) (m_in E l a cd hG ws hW p0 (0 : Int32) (7 : Int32)) mf_X12_in w_1267 rfl rfl (Nat.le_of_ble_eq_true rfl) ⟨(Nat.le_of_ble_eq_true rfl), (Nat.le_of_ble_eq_true rfl)⟩ ⟨(Nat.le_of_ble_eq_true rfl), (Nat.le_of_ble_eq_true rfl)⟩ dX12_hen_4 rfl (fun r2 w3 h1 => ?_)
  obtain ⟨hW4, zb5, x6⟩ := h1
  refine x_ws hW4 ?_
  refine x_if_eq C (tgt := 27) dX12_hen_7 (by decide) rfl (fun c7 => ?_) (fun c7 => ?_)
  · skip
    refine x_iconst C (v := 0) dX12_hen_27 (by decide) rfl ?_
    exact x_zret C hr hlk rfl dX12_hen_28 ⟨hW, (Or.inl rfl)⟩
  · skip
    obtain ⟨j8, hl9, hh10, ej11⟩ := w_nat (a := 0) (b := 7) (by decide) (by decide) (x6 c7)
    subst ej11
    refine x_iload_n C dX12_hen_10 rfl 2 rfl rfl ?_
    refine x_iconst C (v := 0) dX12_hen_11 (by decide) rfl ?_
    refine x_iconst C (v := 3) dX12_hen_12 (by decide) rfl ?_
    refine x_si C (As := [.int p1, .int 0, .int 3]) (rest := []) (m_in E l a cd hG ws hW p1 (0 : Int32) (3 : Int32)) mf_X12_in w_1267 rfl rfl (Nat.le_of_ble_eq_true rfl) ⟨(Nat.le_of_ble_eq_true rfl), (Nat.le_of_ble_eq_true rfl)⟩ ⟨(Nat.le_of_ble_eq_true rfl), (Nat.le_of_ble_eq_true rfl)⟩ dX12_hen_13 rfl (fun r13 w14 h12 => ?_)
    obtain ⟨hW15, zb16, x17⟩ := h12
    refine x_ws hW15 ?_
    refine x_if_eq C (tgt := 27) dX12_hen_16 (by decide) rfl (fun c18 => ?_) (fun c18 => ?_)
    · skip
      refine x_iconst C (v := 0) dX12_hen_27 (by decide) rfl ?_
      exact x_zret C hr hlk rfl dX12_hen_28 ⟨hW, (Or.inl rfl)⟩
    · skip
      obtain ⟨j19, hl20, hh21, ej22⟩ := w_nat (a := 0) (b := 3) (by decide) (by decide) (x17 c18)
      subst ej22
      refine x_aload_n C dX12_hen_19 rfl 0 rfl rfl ?_
      refine x_iload_n C dX12_hen_20 rfl 3 rfl rfl ?_
      obtain ⟨_, k23, n24, n26, n28, v30, v31, v32, n33, n35, n37, n39, v41, v42, v43, v44, n45, n47, v49, bn25, bn27, bn29, bn34, bn36, bn38, bn40, bn46, bn48, zv50, rfl⟩ := hW 0 _ rfl
      refine x_vi C (As := [.int p2]) (rest := []) (m_isPerson E l a cd hG ws hW p2) mf_X12_isPerson w_1270 0 k23 rfl rfl rfl (Nat.le_of_ble_eq_true rfl) ⟨(Nat.le_of_ble_eq_true rfl), (Nat.le_of_ble_eq_true rfl)⟩ ⟨(Nat.le_of_ble_eq_true rfl), (Nat.le_of_ble_eq_true rfl)⟩ dX12_hen_21 rfl (fun r52 w53 h51 => ?_)
      obtain ⟨hW54, zb55, x56⟩ := h51
      refine x_ws hW54 ?_
      refine x_if_ne C (tgt := 29) dX12_hen_24 (by decide) rfl (fun c57 => ?_) (fun c57 => ?_)
      · skip
        obtain ⟨j58, hl59, hh60, ej61⟩ := w_nat (a := 0) (b := 7) (by decide) (by decide) (x56 c57)
        subst ej61
        refine x_aload_n C dX12_hen_29 rfl 0 rfl rfl ?_
        refine x_get C (ci := 11) (k := 0) 0 k23 rfl in_X12 (by decide) w_1118 rfl dX12_hen_30 rfl ?_
        refine x_sipush C (v := 337) dX12_hen_33 (by decide) rfl ?_
        refine x_aload_n C dX12_hen_36 rfl 0 rfl rfl ?_
        refine x_get C (ci := 11) (k := 0) 0 k23 rfl in_X12 (by decide) w_1118 rfl dX12_hen_37 rfl ?_
        refine x_sipush C (v := 337) dX12_hen_40 (by decide) rfl ?_
        obtain ⟨_, k62, f63, pf64, rfl⟩ := hW 1 _ rfl
        refine x_iald C (v := (f63 (337 : Int32).toNatClampNeg)) 1 k62 (vp_k (j := 337) (by decide) (by decide) (by decide)) rfl dX12_hen_43 rfl ?_
        refine x_any (fun v65 => ?_)
        refine x_iconst C (v := 1) dX12_hen_44 (by decide) rfl ?_
        refine x_iload_n C dX12_hen_45 rfl 1 rfl rfl ?_
        refine x_ishl C (v := ((1 : Int32) <<< ((nI j8) &&& 31))) dX12_hen_46 rfl rfl ?_
        refine x_any (fun v66 => ?_)
        refine x_ior C (v := (v65 ||| v66)) dX12_hen_47 rfl rfl ?_
        refine x_any (fun v67 => ?_)
        have pf68 : NB (upd f63 337 v67) := NB_free pf64 (by unfold bd; omega)
        obtain ⟨w69, hw70⟩ : ∃ w : va_W, w = List.set ws 1 (iA E (a 1) 382 (upd f63 337 v67)) := ⟨_, rfl⟩
        refine x_iask C 337 (by decide) (by decide) (by decide) 1 k62 hw70.symm dX12_hen_48 rfl ?_
        have hW71 : WX (okM E a cd) w69 := by rw [hw70]; exact hW.set (k := 1) rfl ⟨_, pf68, rfl⟩
        have k72 : w69[0]? = some (ob (a 0) 11 [.ref (a 1), .ref (a 2), .ref (a 3), .ref (a 4), .int (nI n24), .int (nI n26), .int (nI n28), .int v30, .int v31, .int v32, .int (nI n33), .int (nI n35), .int (nI n37), .int (nI (cd.2.2.2.2.2)), .ref (a 5), .ref (a 6), .ref (a 7), .ref (a 8), .ref (a 9), .ref (a 10), .ref (a 11), .ref (a 12), .ref (a 13), .ref (a 14), .ref (a 15), .ref (a 16), .ref (a 17), .int (nI n39), .ref (a 18), .ref (a 19), .ref (a 20), .ref (a 21), .int v41, .int v42, .int v43, .int v44, .int (nI n45), .int (nI n47), .ref (a 22), .ref (a 23), .ref (a 24), .ref (a 25), .ref (a 26), .ref (a 27), .ref (a 28), .ref (a 29), .ref (a 30), .int v49]) := by rw [hw70]; exact set_ne k23 (by decide)
        have k73 : w69[1]? = some (iA E (a 1) 382 (upd f63 337 v67)) := by rw [hw70]; exact set_eq k62
        refine x_aload_n C dX12_hen_49 rfl 0 rfl rfl ?_
        refine x_get C (ci := 11) (k := 0) 0 k72 rfl in_X12 (by decide) w_1118 rfl dX12_hen_50 rfl ?_
        refine x_sipush C (v := 321) dX12_hen_53 (by decide) rfl ?_
        refine x_iload_n C dX12_hen_56 rfl 1 rfl rfl ?_
        refine x_iadd C (v := (nI (321 + j8))) dX12_hen_57 (nI_add 321 j8) rfl ?_
        refine x_iload_n C dX12_hen_58 rfl 2 rfl rfl ?_
        have pf74 : NB (upd (upd f63 337 v67) (321 + j8) (nI j19)) := NB_free pf68 (by unfold bd; omega)
        obtain ⟨w75, hw76⟩ : ∃ w : va_W, w = List.set w69 1 (iA E (a 1) 382 (upd (upd f63 337 v67) (321 + j8) (nI j19))) := ⟨_, rfl⟩
        refine x_iask C (321 + j8) (nI_clamp (by omega)) (nI_pos (by omega)) (by omega) 1 k73 hw76.symm dX12_hen_59 rfl ?_
        have hW77 : WX (okM E a cd) w75 := by rw [hw76]; exact hW71.set (k := 1) rfl ⟨_, pf74, rfl⟩
        have k78 : w75[0]? = some (ob (a 0) 11 [.ref (a 1), .ref (a 2), .ref (a 3), .ref (a 4), .int (nI n24), .int (nI n26), .int (nI n28), .int v30, .int v31, .int v32, .int (nI n33), .int (nI n35), .int (nI n37), .int (nI (cd.2.2.2.2.2)), .ref (a 5), .ref (a 6), .ref (a 7), .ref (a 8), .ref (a 9), .ref (a 10), .ref (a 11), .ref (a 12), .ref (a 13), .ref (a 14), .ref (a 15), .ref (a 16), .ref (a 17), .int (nI n39), .ref (a 18), .ref (a 19), .ref (a 20), .ref (a 21), .int v41, .int v42, .int v43, .int v44, .int (nI n45), .int (nI n47), .ref (a 22), .ref (a 23), .ref (a 24), .ref (a 25), .ref (a 26), .ref (a 27), .ref (a 28), .ref (a 29), .ref (a 30), .int v49]) := by rw [hw76]; exact set_ne k72 (by decide)
        have k79 : w75[1]? = some (iA E (a 1) 382 (upd (upd f63 337 v67) (321 + j8) (nI j19))) := by rw [hw76]; exact set_eq k73
        refine x_aload_n C dX12_hen_60 rfl 0 rfl rfl ?_
        refine x_get C (ci := 11) (k := 0) 0 k78 rfl in_X12 (by decide) w_1118 rfl dX12_hen_61 rfl ?_
        refine x_sipush C (v := 329) dX12_hen_64 (by decide) rfl ?_
        refine x_iload_n C dX12_hen_67 rfl 1 rfl rfl ?_
        refine x_iadd C (v := (nI (329 + j8))) dX12_hen_68 (nI_add 329 j8) rfl ?_
        refine x_iload_n C dX12_hen_69 rfl 3 rfl rfl ?_
        have pf80 : NB (upd (upd (upd f63 337 v67) (321 + j8) (nI j19)) (329 + j8) (nI j58)) := NB_put_kp (j := j8) pf74 (by omega) (by omega)
        obtain ⟨w81, hw82⟩ : ∃ w : va_W, w = List.set w75 1 (iA E (a 1) 382 (upd (upd (upd f63 337 v67) (321 + j8) (nI j19)) (329 + j8) (nI j58))) := ⟨_, rfl⟩
        refine x_iask C (329 + j8) (nI_clamp (by omega)) (nI_pos (by omega)) (by omega) 1 k79 hw82.symm dX12_hen_70 rfl ?_
        have hW83 : WX (okM E a cd) w81 := by rw [hw82]; exact hW77.set (k := 1) rfl ⟨_, pf80, rfl⟩
        have k84 : w81[0]? = some (ob (a 0) 11 [.ref (a 1), .ref (a 2), .ref (a 3), .ref (a 4), .int (nI n24), .int (nI n26), .int (nI n28), .int v30, .int v31, .int v32, .int (nI n33), .int (nI n35), .int (nI n37), .int (nI (cd.2.2.2.2.2)), .ref (a 5), .ref (a 6), .ref (a 7), .ref (a 8), .ref (a 9), .ref (a 10), .ref (a 11), .ref (a 12), .ref (a 13), .ref (a 14), .ref (a 15), .ref (a 16), .ref (a 17), .int (nI n39), .ref (a 18), .ref (a 19), .ref (a 20), .ref (a 21), .int v41, .int v42, .int v43, .int v44, .int (nI n45), .int (nI n47), .ref (a 22), .ref (a 23), .ref (a 24), .ref (a 25), .ref (a 26), .ref (a 27), .ref (a 28), .ref (a 29), .ref (a 30), .int v49]) := by rw [hw82]; exact set_ne k78 (by decide)
        have k85 : w81[1]? = some (iA E (a 1) 382 (upd (upd (upd f63 337 v67) (321 + j8) (nI j19)) (329 + j8) (nI j58))) := by rw [hw82]; exact set_eq k79
        refine x_iconst C (v := 1) dX12_hen_71 (by decide) rfl ?_
        exact x_zret C hr hlk rfl dX12_hen_72 ⟨hW83, (Or.inr rfl)⟩
      · skip
        refine x_iconst C (v := 0) dX12_hen_27 (by decide) rfl ?_
        exact x_zret C hr hlk rfl dX12_hen_28 ⟨hW, (Or.inl rfl)⟩
theorem dX12_fox_0 : decode cX12_fox 0 = .ok (.aload_n 0, 1) := by decide +kernel
theorem dX12_fox_1 : decode cX12_fox 1 = .ok (.iload_n 1, 1) := by decide +kernel
theorem dX12_fox_2 : decode cX12_fox 2 = .ok (.invokevirtual 116, 3) := by decide +kernel
theorem dX12_fox_5 : decode cX12_fox 5 = .ok (.ifCond .ne 5, 3) := by decide +kernel
theorem dX12_fox_8 : decode cX12_fox 8 = .ok (.iconst 0, 1) := by decide +kernel
theorem dX12_fox_9 : decode cX12_fox 9 = .ok (.ireturn, 1) := by decide +kernel
theorem dX12_fox_10 : decode cX12_fox 10 = .ok (.aload_n 0, 1) := by decide +kernel
theorem dX12_fox_11 : decode cX12_fox 11 = .ok (.getfield 7, 3) := by decide +kernel
theorem dX12_fox_14 : decode cX12_fox 14 = .ok (.sipush 337, 3) := by decide +kernel
theorem dX12_fox_17 : decode cX12_fox 17 = .ok (.aload_n 0, 1) := by decide +kernel
theorem dX12_fox_18 : decode cX12_fox 18 = .ok (.getfield 7, 3) := by decide +kernel
theorem dX12_fox_21 : decode cX12_fox 21 = .ok (.sipush 337, 3) := by decide +kernel
theorem dX12_fox_24 : decode cX12_fox 24 = .ok (.iaload, 1) := by decide +kernel
theorem dX12_fox_25 : decode cX12_fox 25 = .ok (.iconst 1, 1) := by decide +kernel
theorem dX12_fox_26 : decode cX12_fox 26 = .ok (.iload_n 1, 1) := by decide +kernel
theorem dX12_fox_27 : decode cX12_fox 27 = .ok (.ishl, 1) := by decide +kernel
theorem dX12_fox_28 : decode cX12_fox 28 = .ok (.iconst (-1), 1) := by decide +kernel
theorem dX12_fox_29 : decode cX12_fox 29 = .ok (.ixor, 1) := by decide +kernel
theorem dX12_fox_30 : decode cX12_fox 30 = .ok (.iand, 1) := by decide +kernel
theorem dX12_fox_31 : decode cX12_fox 31 = .ok (.iastore, 1) := by decide +kernel
theorem dX12_fox_32 : decode cX12_fox 32 = .ok (.iconst 1, 1) := by decide +kernel
theorem dX12_fox_33 : decode cX12_fox 33 = .ok (.ireturn, 1) := by decide +kernel
set_option maxRecDepth 20000 in
set_option maxHeartbeats 4000000 in
theorem m_fox (E : xE) (l : Launch) (a : Nat → Nat) (cd : Cd) (hG : Good cd) (ws : va_W) (hW : WX (okM E a cd) ws) (p0 : Int32) : xI E l yX12_fox cX12_fox 2 (some .boolean) 8 [.ref (a 0), .int p0] ws (fun r w => WX (okM E a cd) w ∧ zb r) := by
  refine xI_start (lv := [(0, .ref (a 0)), (1, .int p0)]) RX12 (by decide) rfl (Nat.le_of_ble_eq_true rfl) rfl (fun p e s m below meth c A C hr hlk => ?_)
  refine x_aload_n C dX12_fox_0 rfl 0 rfl rfl ?_
  refine x_iload_n C dX12_fox_1 rfl 1 rfl rfl ?_
  obtain ⟨_, k1, n2, n4, n6, v8, v9, v10, n11, n13, n15, n17, v19, v20, v21, v22, n23, n25, v27, bn3, bn5, bn7, bn12, bn14, bn16, bn18, bn24, bn26, zv28, rfl⟩ := hW 0 _ rfl
  refine x_vi C (As := [.int p0]) (rest := []) (m_isHen E l a cd hG ws hW p0) mf_X12_isHen w_1285 0 k1 rfl rfl rfl (Nat.le_of_ble_eq_true rfl) ⟨(Nat.le_of_ble_eq_true rfl), (Nat.le_of_ble_eq_true rfl)⟩ ⟨(Nat.le_of_ble_eq_true rfl), (Nat.le_of_ble_eq_true rfl)⟩ dX12_fox_2 rfl (fun r30 w31 h29 => ?_)
  obtain ⟨hW32, zb33, x34⟩ := h29
  refine x_ws hW32 ?_
  refine x_if_ne C (tgt := 10) dX12_fox_5 (by decide) rfl (fun c35 => ?_) (fun c35 => ?_)
  · skip
    obtain ⟨j36, hl37, hh38, ej39⟩ := w_nat (a := 0) (b := 7) (by decide) (by decide) (x34 c35)
    subst ej39
    refine x_aload_n C dX12_fox_10 rfl 0 rfl rfl ?_
    refine x_get C (ci := 11) (k := 0) 0 k1 rfl in_X12 (by decide) w_1118 rfl dX12_fox_11 rfl ?_
    refine x_sipush C (v := 337) dX12_fox_14 (by decide) rfl ?_
    refine x_aload_n C dX12_fox_17 rfl 0 rfl rfl ?_
    refine x_get C (ci := 11) (k := 0) 0 k1 rfl in_X12 (by decide) w_1118 rfl dX12_fox_18 rfl ?_
    refine x_sipush C (v := 337) dX12_fox_21 (by decide) rfl ?_
    obtain ⟨_, k40, f41, pf42, rfl⟩ := hW 1 _ rfl
    refine x_iald C (v := (f41 (337 : Int32).toNatClampNeg)) 1 k40 (vp_k (j := 337) (by decide) (by decide) (by decide)) rfl dX12_fox_24 rfl ?_
    refine x_any (fun v43 => ?_)
    refine x_iconst C (v := 1) dX12_fox_25 (by decide) rfl ?_
    refine x_iload_n C dX12_fox_26 rfl 1 rfl rfl ?_
    refine x_ishl C (v := ((1 : Int32) <<< ((nI j36) &&& 31))) dX12_fox_27 rfl rfl ?_
    refine x_any (fun v44 => ?_)
    refine x_iconst C (v := (-1)) dX12_fox_28 (by decide) rfl ?_
    refine x_ixor C (v := (v44 ^^^ ((-1) : Int32))) dX12_fox_29 rfl rfl ?_
    refine x_any (fun v45 => ?_)
    refine x_iand C (v := (v43 &&& v45)) dX12_fox_30 rfl rfl ?_
    refine x_any (fun v46 => ?_)
    have pf47 : NB (upd f41 337 v46) := NB_free pf42 (by unfold bd; omega)
    obtain ⟨w48, hw49⟩ : ∃ w : va_W, w = List.set ws 1 (iA E (a 1) 382 (upd f41 337 v46)) := ⟨_, rfl⟩
    refine x_iask C 337 (by decide) (by decide) (by decide) 1 k40 hw49.symm dX12_fox_31 rfl ?_
    have hW50 : WX (okM E a cd) w48 := by rw [hw49]; exact hW.set (k := 1) rfl ⟨_, pf47, rfl⟩
    have k51 : w48[0]? = some (ob (a 0) 11 [.ref (a 1), .ref (a 2), .ref (a 3), .ref (a 4), .int (nI n2), .int (nI n4), .int (nI n6), .int v8, .int v9, .int v10, .int (nI n11), .int (nI n13), .int (nI n15), .int (nI (cd.2.2.2.2.2)), .ref (a 5), .ref (a 6), .ref (a 7), .ref (a 8), .ref (a 9), .ref (a 10), .ref (a 11), .ref (a 12), .ref (a 13), .ref (a 14), .ref (a 15), .ref (a 16), .ref (a 17), .int (nI n17), .ref (a 18), .ref (a 19), .ref (a 20), .ref (a 21), .int v19, .int v20, .int v21, .int v22, .int (nI n23), .int (nI n25), .ref (a 22), .ref (a 23), .ref (a 24), .ref (a 25), .ref (a 26), .ref (a 27), .ref (a 28), .ref (a 29), .ref (a 30), .int v27]) := by rw [hw49]; exact set_ne k1 (by decide)
    have k52 : w48[1]? = some (iA E (a 1) 382 (upd f41 337 v46)) := by rw [hw49]; exact set_eq k40
    refine x_iconst C (v := 1) dX12_fox_32 (by decide) rfl ?_
    exact x_zret C hr hlk rfl dX12_fox_33 ⟨hW50, (Or.inr rfl)⟩
  · skip
    refine x_iconst C (v := 0) dX12_fox_8 (by decide) rfl ?_
    exact x_zret C hr hlk rfl dX12_fox_9 ⟨hW, (Or.inl rfl)⟩
theorem dX12_work_0 : decode cX12_work 0 = .ok (.iload_n 1, 1) := by decide +kernel
theorem dX12_work_1 : decode cX12_work 1 = .ok (.iconst 0, 1) := by decide +kernel
theorem dX12_work_2 : decode cX12_work 2 = .ok (.bipush 7, 2) := by decide +kernel
theorem dX12_work_4 : decode cX12_work 4 = .ok (.invokestatic 109, 3) := by decide +kernel
theorem dX12_work_7 : decode cX12_work 7 = .ok (.ifCond .eq 37, 3) := by decide +kernel
theorem dX12_work_10 : decode cX12_work 10 = .ok (.iload_n 2, 1) := by decide +kernel
theorem dX12_work_11 : decode cX12_work 11 = .ok (.iconst 1, 1) := by decide +kernel
theorem dX12_work_12 : decode cX12_work 12 = .ok (.sipush 999, 3) := by decide +kernel
theorem dX12_work_15 : decode cX12_work 15 = .ok (.invokestatic 109, 3) := by decide +kernel
theorem dX12_work_18 : decode cX12_work 18 = .ok (.ifCond .eq 26, 3) := by decide +kernel
theorem dX12_work_21 : decode cX12_work 21 = .ok (.iload_n 3, 1) := by decide +kernel
theorem dX12_work_22 : decode cX12_work 22 = .ok (.iconst 0, 1) := by decide +kernel
theorem dX12_work_23 : decode cX12_work 23 = .ok (.sipush 999, 3) := by decide +kernel
theorem dX12_work_26 : decode cX12_work 26 = .ok (.invokestatic 109, 3) := by decide +kernel
theorem dX12_work_29 : decode cX12_work 29 = .ok (.ifCond .eq 15, 3) := by decide +kernel
theorem dX12_work_32 : decode cX12_work 32 = .ok (.iload 4, 2) := by decide +kernel
theorem dX12_work_34 : decode cX12_work 34 = .ok (.iconst 0, 1) := by decide +kernel
theorem dX12_work_35 : decode cX12_work 35 = .ok (.sipush 9999, 3) := by decide +kernel
theorem dX12_work_38 : decode cX12_work 38 = .ok (.invokestatic 109, 3) := by decide +kernel
theorem dX12_work_41 : decode cX12_work 41 = .ok (.ifCond .ne 5, 3) := by decide +kernel
theorem dX12_work_44 : decode cX12_work 44 = .ok (.iconst 0, 1) := by decide +kernel
theorem dX12_work_45 : decode cX12_work 45 = .ok (.ireturn, 1) := by decide +kernel
theorem dX12_work_46 : decode cX12_work 46 = .ok (.aload_n 0, 1) := by decide +kernel
theorem dX12_work_47 : decode cX12_work 47 = .ok (.getfield 7, 3) := by decide +kernel
theorem dX12_work_50 : decode cX12_work 50 = .ok (.sipush 378, 3) := by decide +kernel
theorem dX12_work_53 : decode cX12_work 53 = .ok (.aload_n 0, 1) := by decide +kernel
theorem dX12_work_54 : decode cX12_work 54 = .ok (.getfield 7, 3) := by decide +kernel
theorem dX12_work_57 : decode cX12_work 57 = .ok (.sipush 378, 3) := by decide +kernel
theorem dX12_work_60 : decode cX12_work 60 = .ok (.iaload, 1) := by decide +kernel
theorem dX12_work_61 : decode cX12_work 61 = .ok (.iconst 1, 1) := by decide +kernel
theorem dX12_work_62 : decode cX12_work 62 = .ok (.iload_n 1, 1) := by decide +kernel
theorem dX12_work_63 : decode cX12_work 63 = .ok (.ishl, 1) := by decide +kernel
theorem dX12_work_64 : decode cX12_work 64 = .ok (.ior, 1) := by decide +kernel
theorem dX12_work_65 : decode cX12_work 65 = .ok (.iastore, 1) := by decide +kernel
theorem dX12_work_66 : decode cX12_work 66 = .ok (.aload_n 0, 1) := by decide +kernel
theorem dX12_work_67 : decode cX12_work 67 = .ok (.getfield 7, 3) := by decide +kernel
theorem dX12_work_70 : decode cX12_work 70 = .ok (.sipush 338, 3) := by decide +kernel
theorem dX12_work_73 : decode cX12_work 73 = .ok (.iload_n 1, 1) := by decide +kernel
theorem dX12_work_74 : decode cX12_work 74 = .ok (.iadd, 1) := by decide +kernel
theorem dX12_work_75 : decode cX12_work 75 = .ok (.iload_n 2, 1) := by decide +kernel
theorem dX12_work_76 : decode cX12_work 76 = .ok (.iastore, 1) := by decide +kernel
theorem dX12_work_77 : decode cX12_work 77 = .ok (.aload_n 0, 1) := by decide +kernel
theorem dX12_work_78 : decode cX12_work 78 = .ok (.getfield 7, 3) := by decide +kernel
theorem dX12_work_81 : decode cX12_work 81 = .ok (.sipush 346, 3) := by decide +kernel
theorem dX12_work_84 : decode cX12_work 84 = .ok (.iload_n 1, 1) := by decide +kernel
theorem dX12_work_85 : decode cX12_work 85 = .ok (.iadd, 1) := by decide +kernel
theorem dX12_work_86 : decode cX12_work 86 = .ok (.iconst 0, 1) := by decide +kernel
theorem dX12_work_87 : decode cX12_work 87 = .ok (.iastore, 1) := by decide +kernel
theorem dX12_work_88 : decode cX12_work 88 = .ok (.aload_n 0, 1) := by decide +kernel
theorem dX12_work_89 : decode cX12_work 89 = .ok (.getfield 7, 3) := by decide +kernel
theorem dX12_work_92 : decode cX12_work 92 = .ok (.sipush 354, 3) := by decide +kernel
theorem dX12_work_95 : decode cX12_work 95 = .ok (.iload_n 1, 1) := by decide +kernel
theorem dX12_work_96 : decode cX12_work 96 = .ok (.iadd, 1) := by decide +kernel
theorem dX12_work_97 : decode cX12_work 97 = .ok (.iload_n 3, 1) := by decide +kernel
theorem dX12_work_98 : decode cX12_work 98 = .ok (.iastore, 1) := by decide +kernel
theorem dX12_work_99 : decode cX12_work 99 = .ok (.aload_n 0, 1) := by decide +kernel
theorem dX12_work_100 : decode cX12_work 100 = .ok (.getfield 7, 3) := by decide +kernel
theorem dX12_work_103 : decode cX12_work 103 = .ok (.sipush 362, 3) := by decide +kernel
theorem dX12_work_106 : decode cX12_work 106 = .ok (.iload_n 1, 1) := by decide +kernel
theorem dX12_work_107 : decode cX12_work 107 = .ok (.iadd, 1) := by decide +kernel
theorem dX12_work_108 : decode cX12_work 108 = .ok (.iload 4, 2) := by decide +kernel
theorem dX12_work_110 : decode cX12_work 110 = .ok (.iastore, 1) := by decide +kernel
theorem dX12_work_111 : decode cX12_work 111 = .ok (.iconst 1, 1) := by decide +kernel
theorem dX12_work_112 : decode cX12_work 112 = .ok (.ireturn, 1) := by decide +kernel
set_option maxRecDepth 20000 in
set_option maxHeartbeats 4000000 in
theorem m_work (E : xE) (l : Launch) (a : Nat → Nat) (cd : Cd) (hG : Good cd) (ws : va_W) (hW : WX (okM E a cd) ws) (p0 : Int32) (p1 : Int32) (p2 : Int32) (p3 : Int32) : xI E l yX12_work cX12_work 5 (some .boolean) 8 [.ref (a 0), .int p0, .int p1, .int p2, .int p3] ws (fun r w => WX (okM E a cd) w ∧ zb r) := by
  refine xI_start (lv := [(0, .ref (a 0)), (1, .int p0), (2, .int p1), (3, .int p2), (4, .int p3)]) RX12 (by decide) rfl (Nat.le_of_ble_eq_true rfl) rfl (fun p e s m below meth c A C hr hlk => ?_)
  refine x_iload_n C dX12_work_0 rfl 1 rfl rfl ?_
  refine x_iconst C (v := 0) dX12_work_1 (by decide) rfl ?_
  refine x_bipush C (v := 7) dX12_work_2 (by decide) rfl ?_
  refine x_si C (As := [.int p0, .int 0, .int 7]) (rest := []) (m_in E l a cd hG ws hW p0 (0 : Int32) (7 : Int32)) mf_X12_in w_1267 rfl rfl (Nat.le_of_ble_eq_true rfl) ⟨(Nat.le_of_ble_eq_true rfl), (Nat.le_of_ble_eq_true rfl)⟩ ⟨(Nat.le_of_ble_eq_true rfl), (Nat.le_of_ble_eq_true rfl)⟩ dX12_work_4 rfl (fun r2 w3 h1 => ?_)
  obtain ⟨hW4, zb5, x6⟩ := h1
  refine x_ws hW4 ?_
  refine x_if_eq C (tgt := 44) dX12_work_7 (by decide) rfl (fun c7 => ?_) (fun c7 => ?_)
  · skip
    refine x_iconst C (v := 0) dX12_work_44 (by decide) rfl ?_
    exact x_zret C hr hlk rfl dX12_work_45 ⟨hW, (Or.inl rfl)⟩
  · skip
    obtain ⟨j8, hl9, hh10, ej11⟩ := w_nat (a := 0) (b := 7) (by decide) (by decide) (x6 c7)
    subst ej11
    refine x_iload_n C dX12_work_10 rfl 2 rfl rfl ?_
    refine x_iconst C (v := 1) dX12_work_11 (by decide) rfl ?_
    refine x_sipush C (v := 999) dX12_work_12 (by decide) rfl ?_
    refine x_si C (As := [.int p1, .int 1, .int 999]) (rest := []) (m_in E l a cd hG ws hW p1 (1 : Int32) (999 : Int32)) mf_X12_in w_1267 rfl rfl (Nat.le_of_ble_eq_true rfl) ⟨(Nat.le_of_ble_eq_true rfl), (Nat.le_of_ble_eq_true rfl)⟩ ⟨(Nat.le_of_ble_eq_true rfl), (Nat.le_of_ble_eq_true rfl)⟩ dX12_work_15 rfl (fun r13 w14 h12 => ?_)
    obtain ⟨hW15, zb16, x17⟩ := h12
    refine x_ws hW15 ?_
    refine x_if_eq C (tgt := 44) dX12_work_18 (by decide) rfl (fun c18 => ?_) (fun c18 => ?_)
    · skip
      refine x_iconst C (v := 0) dX12_work_44 (by decide) rfl ?_
      exact x_zret C hr hlk rfl dX12_work_45 ⟨hW, (Or.inl rfl)⟩
    · skip
      obtain ⟨j19, hl20, hh21, ej22⟩ := w_nat (a := 1) (b := 999) (by decide) (by decide) (x17 c18)
      subst ej22
      refine x_iload_n C dX12_work_21 rfl 3 rfl rfl ?_
      refine x_iconst C (v := 0) dX12_work_22 (by decide) rfl ?_
      refine x_sipush C (v := 999) dX12_work_23 (by decide) rfl ?_
      refine x_si C (As := [.int p2, .int 0, .int 999]) (rest := []) (m_in E l a cd hG ws hW p2 (0 : Int32) (999 : Int32)) mf_X12_in w_1267 rfl rfl (Nat.le_of_ble_eq_true rfl) ⟨(Nat.le_of_ble_eq_true rfl), (Nat.le_of_ble_eq_true rfl)⟩ ⟨(Nat.le_of_ble_eq_true rfl), (Nat.le_of_ble_eq_true rfl)⟩ dX12_work_26 rfl (fun r24 w25 h23 => ?_)
      obtain ⟨hW26, zb27, x28⟩ := h23
      refine x_ws hW26 ?_
      refine x_if_eq C (tgt := 44) dX12_work_29 (by decide) rfl (fun c29 => ?_) (fun c29 => ?_)
      · skip
        refine x_iconst C (v := 0) dX12_work_44 (by decide) rfl ?_
        exact x_zret C hr hlk rfl dX12_work_45 ⟨hW, (Or.inl rfl)⟩
      · skip
        obtain ⟨j30, hl31, hh32, ej33⟩ := w_nat (a := 0) (b := 999) (by decide) (by decide) (x28 c29)
        subst ej33
        refine x_iload C dX12_work_32 4 rfl rfl ?_
        refine x_iconst C (v := 0) dX12_work_34 (by decide) rfl ?_
        refine x_sipush C (v := 9999) dX12_work_35 (by decide) rfl ?_
        refine x_si C (As := [.int p3, .int 0, .int 9999]) (rest := []) (m_in E l a cd hG ws hW p3 (0 : Int32) (9999 : Int32)) mf_X12_in w_1267 rfl rfl (Nat.le_of_ble_eq_true rfl) ⟨(Nat.le_of_ble_eq_true rfl), (Nat.le_of_ble_eq_true rfl)⟩ ⟨(Nat.le_of_ble_eq_true rfl), (Nat.le_of_ble_eq_true rfl)⟩ dX12_work_38 rfl (fun r35 w36 h34 => ?_)
        obtain ⟨hW37, zb38, x39⟩ := h34
        refine x_ws hW37 ?_
        refine x_if_ne C (tgt := 46) dX12_work_41 (by decide) rfl (fun c40 => ?_) (fun c40 => ?_)
        · skip
          obtain ⟨j41, hl42, hh43, ej44⟩ := w_nat (a := 0) (b := 9999) (by decide) (by decide) (x39 c40)
          subst ej44
          refine x_aload_n C dX12_work_46 rfl 0 rfl rfl ?_
          obtain ⟨_, k45, n46, n48, n50, v52, v53, v54, n55, n57, n59, n61, v63, v64, v65, v66, n67, n69, v71, bn47, bn49, bn51, bn56, bn58, bn60, bn62, bn68, bn70, zv72, rfl⟩ := hW 0 _ rfl
          refine x_get C (ci := 11) (k := 0) 0 k45 rfl in_X12 (by decide) w_1118 rfl dX12_work_47 rfl ?_
          refine x_sipush C (v := 378) dX12_work_50 (by decide) rfl ?_
          refine x_aload_n C dX12_work_53 rfl 0 rfl rfl ?_
          refine x_get C (ci := 11) (k := 0) 0 k45 rfl in_X12 (by decide) w_1118 rfl dX12_work_54 rfl ?_
          refine x_sipush C (v := 378) dX12_work_57 (by decide) rfl ?_
          obtain ⟨_, k73, f74, pf75, rfl⟩ := hW 1 _ rfl
          refine x_iald C (v := (f74 (378 : Int32).toNatClampNeg)) 1 k73 (vp_k (j := 378) (by decide) (by decide) (by decide)) rfl dX12_work_60 rfl ?_
          refine x_any (fun v76 => ?_)
          refine x_iconst C (v := 1) dX12_work_61 (by decide) rfl ?_
          refine x_iload_n C dX12_work_62 rfl 1 rfl rfl ?_
          refine x_ishl C (v := ((1 : Int32) <<< ((nI j8) &&& 31))) dX12_work_63 rfl rfl ?_
          refine x_any (fun v77 => ?_)
          refine x_ior C (v := (v76 ||| v77)) dX12_work_64 rfl rfl ?_
          refine x_any (fun v78 => ?_)
          have pf79 : NB (upd f74 378 v78) := NB_free pf75 (by unfold bd; omega)
          obtain ⟨w80, hw81⟩ : ∃ w : va_W, w = List.set ws 1 (iA E (a 1) 382 (upd f74 378 v78)) := ⟨_, rfl⟩
          refine x_iask C 378 (by decide) (by decide) (by decide) 1 k73 hw81.symm dX12_work_65 rfl ?_
          have hW82 : WX (okM E a cd) w80 := by rw [hw81]; exact hW.set (k := 1) rfl ⟨_, pf79, rfl⟩
          have k83 : w80[0]? = some (ob (a 0) 11 [.ref (a 1), .ref (a 2), .ref (a 3), .ref (a 4), .int (nI n46), .int (nI n48), .int (nI n50), .int v52, .int v53, .int v54, .int (nI n55), .int (nI n57), .int (nI n59), .int (nI (cd.2.2.2.2.2)), .ref (a 5), .ref (a 6), .ref (a 7), .ref (a 8), .ref (a 9), .ref (a 10), .ref (a 11), .ref (a 12), .ref (a 13), .ref (a 14), .ref (a 15), .ref (a 16), .ref (a 17), .int (nI n61), .ref (a 18), .ref (a 19), .ref (a 20), .ref (a 21), .int v63, .int v64, .int v65, .int v66, .int (nI n67), .int (nI n69), .ref (a 22), .ref (a 23), .ref (a 24), .ref (a 25), .ref (a 26), .ref (a 27), .ref (a 28), .ref (a 29), .ref (a 30), .int v71]) := by rw [hw81]; exact set_ne k45 (by decide)
          have k84 : w80[1]? = some (iA E (a 1) 382 (upd f74 378 v78)) := by rw [hw81]; exact set_eq k73
          refine x_aload_n C dX12_work_66 rfl 0 rfl rfl ?_
          refine x_get C (ci := 11) (k := 0) 0 k83 rfl in_X12 (by decide) w_1118 rfl dX12_work_67 rfl ?_
          refine x_sipush C (v := 338) dX12_work_70 (by decide) rfl ?_
          refine x_iload_n C dX12_work_73 rfl 1 rfl rfl ?_
          refine x_iadd C (v := (nI (338 + j8))) dX12_work_74 (nI_add 338 j8) rfl ?_
          refine x_iload_n C dX12_work_75 rfl 2 rfl rfl ?_
          have pf85 : NB (upd (upd f74 378 v78) (338 + j8) (nI j19)) := NB_free pf79 (by unfold bd; omega)
          obtain ⟨w86, hw87⟩ : ∃ w : va_W, w = List.set w80 1 (iA E (a 1) 382 (upd (upd f74 378 v78) (338 + j8) (nI j19))) := ⟨_, rfl⟩
          refine x_iask C (338 + j8) (nI_clamp (by omega)) (nI_pos (by omega)) (by omega) 1 k84 hw87.symm dX12_work_76 rfl ?_
          have hW88 : WX (okM E a cd) w86 := by rw [hw87]; exact hW82.set (k := 1) rfl ⟨_, pf85, rfl⟩
          have k89 : w86[0]? = some (ob (a 0) 11 [.ref (a 1), .ref (a 2), .ref (a 3), .ref (a 4), .int (nI n46), .int (nI n48), .int (nI n50), .int v52, .int v53, .int v54, .int (nI n55), .int (nI n57), .int (nI n59), .int (nI (cd.2.2.2.2.2)), .ref (a 5), .ref (a 6), .ref (a 7), .ref (a 8), .ref (a 9), .ref (a 10), .ref (a 11), .ref (a 12), .ref (a 13), .ref (a 14), .ref (a 15), .ref (a 16), .ref (a 17), .int (nI n61), .ref (a 18), .ref (a 19), .ref (a 20), .ref (a 21), .int v63, .int v64, .int v65, .int v66, .int (nI n67), .int (nI n69), .ref (a 22), .ref (a 23), .ref (a 24), .ref (a 25), .ref (a 26), .ref (a 27), .ref (a 28), .ref (a 29), .ref (a 30), .int v71]) := by rw [hw87]; exact set_ne k83 (by decide)
          have k90 : w86[1]? = some (iA E (a 1) 382 (upd (upd f74 378 v78) (338 + j8) (nI j19))) := by rw [hw87]; exact set_eq k84
          refine x_aload_n C dX12_work_77 rfl 0 rfl rfl ?_
          refine x_get C (ci := 11) (k := 0) 0 k89 rfl in_X12 (by decide) w_1118 rfl dX12_work_78 rfl ?_
          refine x_sipush C (v := 346) dX12_work_81 (by decide) rfl ?_
          refine x_iload_n C dX12_work_84 rfl 1 rfl rfl ?_
          refine x_iadd C (v := (nI (346 + j8))) dX12_work_85 (nI_add 346 j8) rfl ?_
          refine x_iconst C (v := 0) dX12_work_86 (by decide) rfl ?_
          have pf91 : NB (upd (upd (upd f74 378 v78) (338 + j8) (nI j19)) (346 + j8) (0 : Int32)) := NB_free pf85 (by unfold bd; omega)
          obtain ⟨w92, hw93⟩ : ∃ w : va_W, w = List.set w86 1 (iA E (a 1) 382 (upd (upd (upd f74 378 v78) (338 + j8) (nI j19)) (346 + j8) (0 : Int32))) := ⟨_, rfl⟩
          refine x_iask C (346 + j8) (nI_clamp (by omega)) (nI_pos (by omega)) (by omega) 1 k90 hw93.symm dX12_work_87 rfl ?_
          have hW94 : WX (okM E a cd) w92 := by rw [hw93]; exact hW88.set (k := 1) rfl ⟨_, pf91, rfl⟩
          have k95 : w92[0]? = some (ob (a 0) 11 [.ref (a 1), .ref (a 2), .ref (a 3), .ref (a 4), .int (nI n46), .int (nI n48), .int (nI n50), .int v52, .int v53, .int v54, .int (nI n55), .int (nI n57), .int (nI n59), .int (nI (cd.2.2.2.2.2)), .ref (a 5), .ref (a 6), .ref (a 7), .ref (a 8), .ref (a 9), .ref (a 10), .ref (a 11), .ref (a 12), .ref (a 13), .ref (a 14), .ref (a 15), .ref (a 16), .ref (a 17), .int (nI n61), .ref (a 18), .ref (a 19), .ref (a 20), .ref (a 21), .int v63, .int v64, .int v65, .int v66, .int (nI n67), .int (nI n69), .ref (a 22), .ref (a 23), .ref (a 24), .ref (a 25), .ref (a 26), .ref (a 27), .ref (a 28), .ref (a 29), .ref (a 30), .int v71]) := by rw [hw93]; exact set_ne k89 (by decide)
          have k96 : w92[1]? = some (iA E (a 1) 382 (upd (upd (upd f74 378 v78) (338 + j8) (nI j19)) (346 + j8) (0 : Int32))) := by rw [hw93]; exact set_eq k90
          refine x_aload_n C dX12_work_88 rfl 0 rfl rfl ?_
          refine x_get C (ci := 11) (k := 0) 0 k95 rfl in_X12 (by decide) w_1118 rfl dX12_work_89 rfl ?_
          refine x_sipush C (v := 354) dX12_work_92 (by decide) rfl ?_
          refine x_iload_n C dX12_work_95 rfl 1 rfl rfl ?_
          refine x_iadd C (v := (nI (354 + j8))) dX12_work_96 (nI_add 354 j8) rfl ?_
          refine x_iload_n C dX12_work_97 rfl 3 rfl rfl ?_
          have pf97 : NB (upd (upd (upd (upd f74 378 v78) (338 + j8) (nI j19)) (346 + j8) (0 : Int32)) (354 + j8) (nI j30)) := NB_free pf91 (by unfold bd; omega)
          obtain ⟨w98, hw99⟩ : ∃ w : va_W, w = List.set w92 1 (iA E (a 1) 382 (upd (upd (upd (upd f74 378 v78) (338 + j8) (nI j19)) (346 + j8) (0 : Int32)) (354 + j8) (nI j30))) := ⟨_, rfl⟩
          refine x_iask C (354 + j8) (nI_clamp (by omega)) (nI_pos (by omega)) (by omega) 1 k96 hw99.symm dX12_work_98 rfl ?_
          have hW100 : WX (okM E a cd) w98 := by rw [hw99]; exact hW94.set (k := 1) rfl ⟨_, pf97, rfl⟩
          have k101 : w98[0]? = some (ob (a 0) 11 [.ref (a 1), .ref (a 2), .ref (a 3), .ref (a 4), .int (nI n46), .int (nI n48), .int (nI n50), .int v52, .int v53, .int v54, .int (nI n55), .int (nI n57), .int (nI n59), .int (nI (cd.2.2.2.2.2)), .ref (a 5), .ref (a 6), .ref (a 7), .ref (a 8), .ref (a 9), .ref (a 10), .ref (a 11), .ref (a 12), .ref (a 13), .ref (a 14), .ref (a 15), .ref (a 16), .ref (a 17), .int (nI n61), .ref (a 18), .ref (a 19), .ref (a 20), .ref (a 21), .int v63, .int v64, .int v65, .int v66, .int (nI n67), .int (nI n69), .ref (a 22), .ref (a 23), .ref (a 24), .ref (a 25), .ref (a 26), .ref (a 27), .ref (a 28), .ref (a 29), .ref (a 30), .int v71]) := by rw [hw99]; exact set_ne k95 (by decide)
          have k102 : w98[1]? = some (iA E (a 1) 382 (upd (upd (upd (upd f74 378 v78) (338 + j8) (nI j19)) (346 + j8) (0 : Int32)) (354 + j8) (nI j30))) := by rw [hw99]; exact set_eq k96
          refine x_aload_n C dX12_work_99 rfl 0 rfl rfl ?_
          refine x_get C (ci := 11) (k := 0) 0 k101 rfl in_X12 (by decide) w_1118 rfl dX12_work_100 rfl ?_
          refine x_sipush C (v := 362) dX12_work_103 (by decide) rfl ?_
          refine x_iload_n C dX12_work_106 rfl 1 rfl rfl ?_
          refine x_iadd C (v := (nI (362 + j8))) dX12_work_107 (nI_add 362 j8) rfl ?_
          refine x_iload C dX12_work_108 4 rfl rfl ?_
          have pf103 : NB (upd (upd (upd (upd (upd f74 378 v78) (338 + j8) (nI j19)) (346 + j8) (0 : Int32)) (354 + j8) (nI j30)) (362 + j8) (nI j41)) := NB_free pf97 (by unfold bd; omega)
          obtain ⟨w104, hw105⟩ : ∃ w : va_W, w = List.set w98 1 (iA E (a 1) 382 (upd (upd (upd (upd (upd f74 378 v78) (338 + j8) (nI j19)) (346 + j8) (0 : Int32)) (354 + j8) (nI j30)) (362 + j8) (nI j41))) := ⟨_, rfl⟩
          refine x_iask C (362 + j8) (nI_clamp (by omega)) (nI_pos (by omega)) (by omega) 1 k102 hw105.symm dX12_work_110 rfl ?_
          have hW106 : WX (okM E a cd) w104 := by rw [hw105]; exact hW100.set (k := 1) rfl ⟨_, pf103, rfl⟩
          have k107 : w104[0]? = some (ob (a 0) 11 [.ref (a 1), .ref (a 2), .ref (a 3), .ref (a 4), .int (nI n46), .int (nI n48), .int (nI n50), .int v52, .int v53, .int v54, .int (nI n55), .int (nI n57), .int (nI n59), .int (nI (cd.2.2.2.2.2)), .ref (a 5), .ref (a 6), .ref (a 7), .ref (a 8), .ref (a 9), .ref (a 10), .ref (a 11), .ref (a 12), .ref (a 13), .ref (a 14), .ref (a 15), .ref (a 16), .ref (a 17), .int (nI n61), .ref (a 18), .ref (a 19), .ref (a 20), .ref (a 21), .int v63, .int v64, .int v65, .int v66, .int (nI n67), .int (nI n69), .ref (a 22), .ref (a 23), .ref (a 24), .ref (a 25), .ref (a 26), .ref (a 27), .ref (a 28), .ref (a 29), .ref (a 30), .int v71]) := by rw [hw105]; exact set_ne k101 (by decide)
          have k108 : w104[1]? = some (iA E (a 1) 382 (upd (upd (upd (upd (upd f74 378 v78) (338 + j8) (nI j19)) (346 + j8) (0 : Int32)) (354 + j8) (nI j30)) (362 + j8) (nI j41))) := by rw [hw105]; exact set_eq k102
          refine x_iconst C (v := 1) dX12_work_111 (by decide) rfl ?_
          exact x_zret C hr hlk rfl dX12_work_112 ⟨hW106, (Or.inr rfl)⟩
        · skip
          refine x_iconst C (v := 0) dX12_work_44 (by decide) rfl ?_
          exact x_zret C hr hlk rfl dX12_work_45 ⟨hW, (Or.inl rfl)⟩
theorem dX12_puts_0 : decode cX12_puts 0 = .ok (.aload_n 0, 1) := by decide +kernel
theorem dX12_puts_1 : decode cX12_puts 1 = .ok (.getfield 7, 3) := by decide +kernel
theorem dX12_puts_4 : decode cX12_puts 4 = .ok (.iconst 0, 1) := by decide +kernel
theorem dX12_puts_5 : decode cX12_puts 5 = .ok (.iload_n 2, 1) := by decide +kernel
theorem dX12_puts_6 : decode cX12_puts 6 = .ok (.iadd, 1) := by decide +kernel
theorem dX12_puts_7 : decode cX12_puts 7 = .ok (.aload_n 0, 1) := by decide +kernel
theorem dX12_puts_8 : decode cX12_puts 8 = .ok (.getfield 7, 3) := by decide +kernel
theorem dX12_puts_11 : decode cX12_puts 11 = .ok (.iconst 0, 1) := by decide +kernel
theorem dX12_puts_12 : decode cX12_puts 12 = .ok (.iload_n 1, 1) := by decide +kernel
theorem dX12_puts_13 : decode cX12_puts 13 = .ok (.iadd, 1) := by decide +kernel
theorem dX12_puts_14 : decode cX12_puts 14 = .ok (.iaload, 1) := by decide +kernel
theorem dX12_puts_15 : decode cX12_puts 15 = .ok (.iastore, 1) := by decide +kernel
theorem dX12_puts_16 : decode cX12_puts 16 = .ok (.aload_n 0, 1) := by decide +kernel
theorem dX12_puts_17 : decode cX12_puts 17 = .ok (.getfield 7, 3) := by decide +kernel
theorem dX12_puts_20 : decode cX12_puts 20 = .ok (.bipush 48, 2) := by decide +kernel
theorem dX12_puts_22 : decode cX12_puts 22 = .ok (.iload_n 2, 1) := by decide +kernel
theorem dX12_puts_23 : decode cX12_puts 23 = .ok (.iadd, 1) := by decide +kernel
theorem dX12_puts_24 : decode cX12_puts 24 = .ok (.aload_n 0, 1) := by decide +kernel
theorem dX12_puts_25 : decode cX12_puts 25 = .ok (.getfield 7, 3) := by decide +kernel
theorem dX12_puts_28 : decode cX12_puts 28 = .ok (.bipush 48, 2) := by decide +kernel
theorem dX12_puts_30 : decode cX12_puts 30 = .ok (.iload_n 1, 1) := by decide +kernel
theorem dX12_puts_31 : decode cX12_puts 31 = .ok (.iadd, 1) := by decide +kernel
theorem dX12_puts_32 : decode cX12_puts 32 = .ok (.iaload, 1) := by decide +kernel
theorem dX12_puts_33 : decode cX12_puts 33 = .ok (.iastore, 1) := by decide +kernel
theorem dX12_puts_34 : decode cX12_puts 34 = .ok (.aload_n 0, 1) := by decide +kernel
theorem dX12_puts_35 : decode cX12_puts 35 = .ok (.getfield 7, 3) := by decide +kernel
theorem dX12_puts_38 : decode cX12_puts 38 = .ok (.bipush 96, 2) := by decide +kernel
theorem dX12_puts_40 : decode cX12_puts 40 = .ok (.iload_n 2, 1) := by decide +kernel
theorem dX12_puts_41 : decode cX12_puts 41 = .ok (.iadd, 1) := by decide +kernel
theorem dX12_puts_42 : decode cX12_puts 42 = .ok (.aload_n 0, 1) := by decide +kernel
theorem dX12_puts_43 : decode cX12_puts 43 = .ok (.getfield 7, 3) := by decide +kernel
theorem dX12_puts_46 : decode cX12_puts 46 = .ok (.bipush 96, 2) := by decide +kernel
theorem dX12_puts_48 : decode cX12_puts 48 = .ok (.iload_n 1, 1) := by decide +kernel
theorem dX12_puts_49 : decode cX12_puts 49 = .ok (.iadd, 1) := by decide +kernel
theorem dX12_puts_50 : decode cX12_puts 50 = .ok (.iaload, 1) := by decide +kernel
theorem dX12_puts_51 : decode cX12_puts 51 = .ok (.iastore, 1) := by decide +kernel
theorem dX12_puts_52 : decode cX12_puts 52 = .ok (.aload_n 0, 1) := by decide +kernel
theorem dX12_puts_53 : decode cX12_puts 53 = .ok (.getfield 7, 3) := by decide +kernel
theorem dX12_puts_56 : decode cX12_puts 56 = .ok (.sipush 144, 3) := by decide +kernel
theorem dX12_puts_59 : decode cX12_puts 59 = .ok (.iload_n 2, 1) := by decide +kernel
theorem dX12_puts_60 : decode cX12_puts 60 = .ok (.iadd, 1) := by decide +kernel
theorem dX12_puts_61 : decode cX12_puts 61 = .ok (.aload_n 0, 1) := by decide +kernel
theorem dX12_puts_62 : decode cX12_puts 62 = .ok (.getfield 7, 3) := by decide +kernel
theorem dX12_puts_65 : decode cX12_puts 65 = .ok (.sipush 144, 3) := by decide +kernel
theorem dX12_puts_68 : decode cX12_puts 68 = .ok (.iload_n 1, 1) := by decide +kernel
theorem dX12_puts_69 : decode cX12_puts 69 = .ok (.iadd, 1) := by decide +kernel
theorem dX12_puts_70 : decode cX12_puts 70 = .ok (.iaload, 1) := by decide +kernel
theorem dX12_puts_71 : decode cX12_puts 71 = .ok (.iastore, 1) := by decide +kernel
theorem dX12_puts_72 : decode cX12_puts 72 = .ok (.aload_n 0, 1) := by decide +kernel
theorem dX12_puts_73 : decode cX12_puts 73 = .ok (.getfield 7, 3) := by decide +kernel
theorem dX12_puts_76 : decode cX12_puts 76 = .ok (.sipush 192, 3) := by decide +kernel
theorem dX12_puts_79 : decode cX12_puts 79 = .ok (.iload_n 2, 1) := by decide +kernel
theorem dX12_puts_80 : decode cX12_puts 80 = .ok (.iadd, 1) := by decide +kernel
theorem dX12_puts_81 : decode cX12_puts 81 = .ok (.aload_n 0, 1) := by decide +kernel
theorem dX12_puts_82 : decode cX12_puts 82 = .ok (.getfield 7, 3) := by decide +kernel
theorem dX12_puts_85 : decode cX12_puts 85 = .ok (.sipush 192, 3) := by decide +kernel
theorem dX12_puts_88 : decode cX12_puts 88 = .ok (.iload_n 1, 1) := by decide +kernel
theorem dX12_puts_89 : decode cX12_puts 89 = .ok (.iadd, 1) := by decide +kernel
theorem dX12_puts_90 : decode cX12_puts 90 = .ok (.iaload, 1) := by decide +kernel
theorem dX12_puts_91 : decode cX12_puts 91 = .ok (.iastore, 1) := by decide +kernel
theorem dX12_puts_92 : decode cX12_puts 92 = .ok (.aload_n 0, 1) := by decide +kernel
theorem dX12_puts_93 : decode cX12_puts 93 = .ok (.getfield 7, 3) := by decide +kernel
theorem dX12_puts_96 : decode cX12_puts 96 = .ok (.sipush 240, 3) := by decide +kernel
theorem dX12_puts_99 : decode cX12_puts 99 = .ok (.iload_n 2, 1) := by decide +kernel
theorem dX12_puts_100 : decode cX12_puts 100 = .ok (.iadd, 1) := by decide +kernel
theorem dX12_puts_101 : decode cX12_puts 101 = .ok (.aload_n 0, 1) := by decide +kernel
theorem dX12_puts_102 : decode cX12_puts 102 = .ok (.getfield 7, 3) := by decide +kernel
theorem dX12_puts_105 : decode cX12_puts 105 = .ok (.sipush 240, 3) := by decide +kernel
theorem dX12_puts_108 : decode cX12_puts 108 = .ok (.iload_n 1, 1) := by decide +kernel
theorem dX12_puts_109 : decode cX12_puts 109 = .ok (.iadd, 1) := by decide +kernel
theorem dX12_puts_110 : decode cX12_puts 110 = .ok (.iaload, 1) := by decide +kernel
theorem dX12_puts_111 : decode cX12_puts 111 = .ok (.iastore, 1) := by decide +kernel
theorem dX12_puts_112 : decode cX12_puts 112 = .ok (.return_, 1) := by decide +kernel
set_option maxRecDepth 20000 in
set_option maxHeartbeats 4000000 in
theorem m_puts (E : xE) (l : Launch) (a : Nat → Nat) (cd : Cd) (hG : Good cd) (ws : va_W) (hW : WX (okM E a cd) ws) (f0 : Nat) (t0 : Nat) (hf0 : f0 ≤ 47) (ht0 : t0 ≤ 47) : xV E l yX12_puts cX12_puts 3 0 0 0 [.ref (a 0), .int (nI f0), .int (nI t0)] ws (fun w => WX (okM E a cd) w ∧ keeps ws w (fun q => q = 1)) := by
  refine xV_start (lv := [(0, .ref (a 0)), (1, .int (nI f0)), (2, .int (nI t0))]) RX12 (by decide) rfl (Nat.le_of_ble_eq_true rfl) rfl (fun p e s m below meth c A C hr hlk hin => ?_)
  have kp0 : keeps ws ws (fun q => q = 1) := keeps_rf
  refine x_aload_n C dX12_puts_0 rfl 0 rfl rfl ?_
  obtain ⟨_, k1, n2, n4, n6, v8, v9, v10, n11, n13, n15, n17, v19, v20, v21, v22, n23, n25, v27, bn3, bn5, bn7, bn12, bn14, bn16, bn18, bn24, bn26, zv28, rfl⟩ := hW 0 _ rfl
  refine x_get C (ci := 11) (k := 0) 0 k1 rfl in_X12 (by decide) w_1118 rfl dX12_puts_1 rfl ?_
  refine x_iconst C (v := 0) dX12_puts_4 (by decide) rfl ?_
  refine x_iload_n C dX12_puts_5 rfl 2 rfl rfl ?_
  refine x_iadd C (v := (nI (0 + t0))) dX12_puts_6 (nI_add 0 t0) rfl ?_
  refine x_aload_n C dX12_puts_7 rfl 0 rfl rfl ?_
  refine x_get C (ci := 11) (k := 0) 0 k1 rfl in_X12 (by decide) w_1118 rfl dX12_puts_8 rfl ?_
  refine x_iconst C (v := 0) dX12_puts_11 (by decide) rfl ?_
  refine x_iload_n C dX12_puts_12 rfl 1 rfl rfl ?_
  refine x_iadd C (v := (nI (0 + f0))) dX12_puts_13 (nI_add 0 f0) rfl ?_
  obtain ⟨_, k29, f30, pf31, rfl⟩ := hW 1 _ rfl
  refine x_iald C (v := (f30 (nI (0 + f0)).toNatClampNeg)) 1 k29 (vp_in_nI (by omega) (by decide)) rfl dX12_puts_14 rfl ?_
  refine x_any (fun v32 => ?_)
  have pf33 : NB (upd f30 (0 + t0) v32) := NB_free pf31 (by unfold bd; omega)
  obtain ⟨w34, hw35⟩ : ∃ w : va_W, w = List.set ws 1 (iA E (a 1) 382 (upd f30 (0 + t0) v32)) := ⟨_, rfl⟩
  refine x_iask C (0 + t0) (nI_clamp (by omega)) (nI_pos (by omega)) (by omega) 1 k29 hw35.symm dX12_puts_15 rfl ?_
  have hW36 : WX (okM E a cd) w34 := by rw [hw35]; exact hW.set (k := 1) rfl ⟨_, pf33, rfl⟩
  have k37 : w34[0]? = some (ob (a 0) 11 [.ref (a 1), .ref (a 2), .ref (a 3), .ref (a 4), .int (nI n2), .int (nI n4), .int (nI n6), .int v8, .int v9, .int v10, .int (nI n11), .int (nI n13), .int (nI n15), .int (nI (cd.2.2.2.2.2)), .ref (a 5), .ref (a 6), .ref (a 7), .ref (a 8), .ref (a 9), .ref (a 10), .ref (a 11), .ref (a 12), .ref (a 13), .ref (a 14), .ref (a 15), .ref (a 16), .ref (a 17), .int (nI n17), .ref (a 18), .ref (a 19), .ref (a 20), .ref (a 21), .int v19, .int v20, .int v21, .int v22, .int (nI n23), .int (nI n25), .ref (a 22), .ref (a 23), .ref (a 24), .ref (a 25), .ref (a 26), .ref (a 27), .ref (a 28), .ref (a 29), .ref (a 30), .int v27]) := by rw [hw35]; exact set_ne k1 (by decide)
  have k38 : w34[1]? = some (iA E (a 1) 382 (upd f30 (0 + t0) v32)) := by rw [hw35]; exact set_eq k29
  have kp39 := keeps_set kp0 hw35 (by first | exact rfl | decide | omega | (dsimp only; omega))
  refine x_aload_n C dX12_puts_16 rfl 0 rfl rfl ?_
  refine x_get C (ci := 11) (k := 0) 0 k37 rfl in_X12 (by decide) w_1118 rfl dX12_puts_17 rfl ?_
  refine x_bipush C (v := 48) dX12_puts_20 (by decide) rfl ?_
  refine x_iload_n C dX12_puts_22 rfl 2 rfl rfl ?_
  refine x_iadd C (v := (nI (48 + t0))) dX12_puts_23 (nI_add 48 t0) rfl ?_
  refine x_aload_n C dX12_puts_24 rfl 0 rfl rfl ?_
  refine x_get C (ci := 11) (k := 0) 0 k37 rfl in_X12 (by decide) w_1118 rfl dX12_puts_25 rfl ?_
  refine x_bipush C (v := 48) dX12_puts_28 (by decide) rfl ?_
  refine x_iload_n C dX12_puts_30 rfl 1 rfl rfl ?_
  refine x_iadd C (v := (nI (48 + f0))) dX12_puts_31 (nI_add 48 f0) rfl ?_
  obtain ⟨n40, hn41, en42⟩ := NB_lo (j := f0) pf33 (by omega)
  refine x_ialk C (v := nI n40) (48 + f0) (nI_clamp (by omega)) (nI_pos (by omega)) (by omega) 1 k38 en42 dX12_puts_32 rfl ?_
  have pf43 : NB (upd (upd f30 (0 + t0) v32) (48 + t0) (nI n40)) := NB_put_lo (j := t0) pf33 (by omega) (by omega)
  obtain ⟨w44, hw45⟩ : ∃ w : va_W, w = List.set w34 1 (iA E (a 1) 382 (upd (upd f30 (0 + t0) v32) (48 + t0) (nI n40))) := ⟨_, rfl⟩
  refine x_iask C (48 + t0) (nI_clamp (by omega)) (nI_pos (by omega)) (by omega) 1 k38 hw45.symm dX12_puts_33 rfl ?_
  have hW46 : WX (okM E a cd) w44 := by rw [hw45]; exact hW36.set (k := 1) rfl ⟨_, pf43, rfl⟩
  have k47 : w44[0]? = some (ob (a 0) 11 [.ref (a 1), .ref (a 2), .ref (a 3), .ref (a 4), .int (nI n2), .int (nI n4), .int (nI n6), .int v8, .int v9, .int v10, .int (nI n11), .int (nI n13), .int (nI n15), .int (nI (cd.2.2.2.2.2)), .ref (a 5), .ref (a 6), .ref (a 7), .ref (a 8), .ref (a 9), .ref (a 10), .ref (a 11), .ref (a 12), .ref (a 13), .ref (a 14), .ref (a 15), .ref (a 16), .ref (a 17), .int (nI n17), .ref (a 18), .ref (a 19), .ref (a 20), .ref (a 21), .int v19, .int v20, .int v21, .int v22, .int (nI n23), .int (nI n25), .ref (a 22), .ref (a 23), .ref (a 24), .ref (a 25), .ref (a 26), .ref (a 27), .ref (a 28), .ref (a 29), .ref (a 30), .int v27]) := by rw [hw45]; exact set_ne k37 (by decide)
  have k48 : w44[1]? = some (iA E (a 1) 382 (upd (upd f30 (0 + t0) v32) (48 + t0) (nI n40))) := by rw [hw45]; exact set_eq k38
  have kp49 := keeps_set kp39 hw45 (by first | exact rfl | decide | omega | (dsimp only; omega))
  refine x_aload_n C dX12_puts_34 rfl 0 rfl rfl ?_
  refine x_get C (ci := 11) (k := 0) 0 k47 rfl in_X12 (by decide) w_1118 rfl dX12_puts_35 rfl ?_
  refine x_bipush C (v := 96) dX12_puts_38 (by decide) rfl ?_
  refine x_iload_n C dX12_puts_40 rfl 2 rfl rfl ?_
  refine x_iadd C (v := (nI (96 + t0))) dX12_puts_41 (nI_add 96 t0) rfl ?_
  refine x_aload_n C dX12_puts_42 rfl 0 rfl rfl ?_
  refine x_get C (ci := 11) (k := 0) 0 k47 rfl in_X12 (by decide) w_1118 rfl dX12_puts_43 rfl ?_
  refine x_bipush C (v := 96) dX12_puts_46 (by decide) rfl ?_
  refine x_iload_n C dX12_puts_48 rfl 1 rfl rfl ?_
  refine x_iadd C (v := (nI (96 + f0))) dX12_puts_49 (nI_add 96 f0) rfl ?_
  obtain ⟨n50, hn51, en52⟩ := NB_hen (j := f0) pf43 (by omega)
  refine x_ialk C (v := nI n50) (96 + f0) (nI_clamp (by omega)) (nI_pos (by omega)) (by omega) 1 k48 en52 dX12_puts_50 rfl ?_
  have pf53 : NB (upd (upd (upd f30 (0 + t0) v32) (48 + t0) (nI n40)) (96 + t0) (nI n50)) := NB_put_hen (j := t0) pf43 (by omega) (by omega)
  obtain ⟨w54, hw55⟩ : ∃ w : va_W, w = List.set w44 1 (iA E (a 1) 382 (upd (upd (upd f30 (0 + t0) v32) (48 + t0) (nI n40)) (96 + t0) (nI n50))) := ⟨_, rfl⟩
  refine x_iask C (96 + t0) (nI_clamp (by omega)) (nI_pos (by omega)) (by omega) 1 k48 hw55.symm dX12_puts_51 rfl ?_
  have hW56 : WX (okM E a cd) w54 := by rw [hw55]; exact hW46.set (k := 1) rfl ⟨_, pf53, rfl⟩
  have k57 : w54[0]? = some (ob (a 0) 11 [.ref (a 1), .ref (a 2), .ref (a 3), .ref (a 4), .int (nI n2), .int (nI n4), .int (nI n6), .int v8, .int v9, .int v10, .int (nI n11), .int (nI n13), .int (nI n15), .int (nI (cd.2.2.2.2.2)), .ref (a 5), .ref (a 6), .ref (a 7), .ref (a 8), .ref (a 9), .ref (a 10), .ref (a 11), .ref (a 12), .ref (a 13), .ref (a 14), .ref (a 15), .ref (a 16), .ref (a 17), .int (nI n17), .ref (a 18), .ref (a 19), .ref (a 20), .ref (a 21), .int v19, .int v20, .int v21, .int v22, .int (nI n23), .int (nI n25), .ref (a 22), .ref (a 23), .ref (a 24), .ref (a 25), .ref (a 26), .ref (a 27), .ref (a 28), .ref (a 29), .ref (a 30), .int v27]) := by rw [hw55]; exact set_ne k47 (by decide)
  have k58 : w54[1]? = some (iA E (a 1) 382 (upd (upd (upd f30 (0 + t0) v32) (48 + t0) (nI n40)) (96 + t0) (nI n50))) := by rw [hw55]; exact set_eq k48
  have kp59 := keeps_set kp49 hw55 (by first | exact rfl | decide | omega | (dsimp only; omega))
  refine x_aload_n C dX12_puts_52 rfl 0 rfl rfl ?_
  refine x_get C (ci := 11) (k := 0) 0 k57 rfl in_X12 (by decide) w_1118 rfl dX12_puts_53 rfl ?_
  refine x_sipush C (v := 144) dX12_puts_56 (by decide) rfl ?_
  refine x_iload_n C dX12_puts_59 rfl 2 rfl rfl ?_
  refine x_iadd C (v := (nI (144 + t0))) dX12_puts_60 (nI_add 144 t0) rfl ?_
  refine x_aload_n C dX12_puts_61 rfl 0 rfl rfl ?_
  refine x_get C (ci := 11) (k := 0) 0 k57 rfl in_X12 (by decide) w_1118 rfl dX12_puts_62 rfl ?_
  refine x_sipush C (v := 144) dX12_puts_65 (by decide) rfl ?_
  refine x_iload_n C dX12_puts_68 rfl 1 rfl rfl ?_
  refine x_iadd C (v := (nI (144 + f0))) dX12_puts_69 (nI_add 144 f0) rfl ?_
  obtain ⟨n60, hn61, en62⟩ := NB_own (j := f0) pf53 (by omega)
  refine x_ialk C (v := nI n60) (144 + f0) (nI_clamp (by omega)) (nI_pos (by omega)) (by omega) 1 k58 en62 dX12_puts_70 rfl ?_
  have pf63 : NB (upd (upd (upd (upd f30 (0 + t0) v32) (48 + t0) (nI n40)) (96 + t0) (nI n50)) (144 + t0) (nI n60)) := NB_put_own (j := t0) pf53 (by omega) (by omega)
  obtain ⟨w64, hw65⟩ : ∃ w : va_W, w = List.set w54 1 (iA E (a 1) 382 (upd (upd (upd (upd f30 (0 + t0) v32) (48 + t0) (nI n40)) (96 + t0) (nI n50)) (144 + t0) (nI n60))) := ⟨_, rfl⟩
  refine x_iask C (144 + t0) (nI_clamp (by omega)) (nI_pos (by omega)) (by omega) 1 k58 hw65.symm dX12_puts_71 rfl ?_
  have hW66 : WX (okM E a cd) w64 := by rw [hw65]; exact hW56.set (k := 1) rfl ⟨_, pf63, rfl⟩
  have k67 : w64[0]? = some (ob (a 0) 11 [.ref (a 1), .ref (a 2), .ref (a 3), .ref (a 4), .int (nI n2), .int (nI n4), .int (nI n6), .int v8, .int v9, .int v10, .int (nI n11), .int (nI n13), .int (nI n15), .int (nI (cd.2.2.2.2.2)), .ref (a 5), .ref (a 6), .ref (a 7), .ref (a 8), .ref (a 9), .ref (a 10), .ref (a 11), .ref (a 12), .ref (a 13), .ref (a 14), .ref (a 15), .ref (a 16), .ref (a 17), .int (nI n17), .ref (a 18), .ref (a 19), .ref (a 20), .ref (a 21), .int v19, .int v20, .int v21, .int v22, .int (nI n23), .int (nI n25), .ref (a 22), .ref (a 23), .ref (a 24), .ref (a 25), .ref (a 26), .ref (a 27), .ref (a 28), .ref (a 29), .ref (a 30), .int v27]) := by rw [hw65]; exact set_ne k57 (by decide)
  have k68 : w64[1]? = some (iA E (a 1) 382 (upd (upd (upd (upd f30 (0 + t0) v32) (48 + t0) (nI n40)) (96 + t0) (nI n50)) (144 + t0) (nI n60))) := by rw [hw65]; exact set_eq k58
  have kp69 := keeps_set kp59 hw65 (by first | exact rfl | decide | omega | (dsimp only; omega))
  refine x_aload_n C dX12_puts_72 rfl 0 rfl rfl ?_
  refine x_get C (ci := 11) (k := 0) 0 k67 rfl in_X12 (by decide) w_1118 rfl dX12_puts_73 rfl ?_
  refine x_sipush C (v := 192) dX12_puts_76 (by decide) rfl ?_
  refine x_iload_n C dX12_puts_79 rfl 2 rfl rfl ?_
  refine x_iadd C (v := (nI (192 + t0))) dX12_puts_80 (nI_add 192 t0) rfl ?_
  refine x_aload_n C dX12_puts_81 rfl 0 rfl rfl ?_
  refine x_get C (ci := 11) (k := 0) 0 k67 rfl in_X12 (by decide) w_1118 rfl dX12_puts_82 rfl ?_
  refine x_sipush C (v := 192) dX12_puts_85 (by decide) rfl ?_
  refine x_iload_n C dX12_puts_88 rfl 1 rfl rfl ?_
  refine x_iadd C (v := (nI (192 + f0))) dX12_puts_89 (nI_add 192 f0) rfl ?_
  refine x_iald C (v := ((upd (upd (upd (upd f30 (0 + t0) v32) (48 + t0) (nI n40)) (96 + t0) (nI n50)) (144 + t0) (nI n60)) (nI (192 + f0)).toNatClampNeg)) 1 k68 (vp_in_nI (by omega) (by decide)) rfl dX12_puts_90 rfl ?_
  refine x_any (fun v70 => ?_)
  have pf71 : NB (upd (upd (upd (upd (upd f30 (0 + t0) v32) (48 + t0) (nI n40)) (96 + t0) (nI n50)) (144 + t0) (nI n60)) (192 + t0) v70) := NB_free pf63 (by unfold bd; omega)
  obtain ⟨w72, hw73⟩ : ∃ w : va_W, w = List.set w64 1 (iA E (a 1) 382 (upd (upd (upd (upd (upd f30 (0 + t0) v32) (48 + t0) (nI n40)) (96 + t0) (nI n50)) (144 + t0) (nI n60)) (192 + t0) v70)) := ⟨_, rfl⟩
  refine x_iask C (192 + t0) (nI_clamp (by omega)) (nI_pos (by omega)) (by omega) 1 k68 hw73.symm dX12_puts_91 rfl ?_
  have hW74 : WX (okM E a cd) w72 := by rw [hw73]; exact hW66.set (k := 1) rfl ⟨_, pf71, rfl⟩
  have k75 : w72[0]? = some (ob (a 0) 11 [.ref (a 1), .ref (a 2), .ref (a 3), .ref (a 4), .int (nI n2), .int (nI n4), .int (nI n6), .int v8, .int v9, .int v10, .int (nI n11), .int (nI n13), .int (nI n15), .int (nI (cd.2.2.2.2.2)), .ref (a 5), .ref (a 6), .ref (a 7), .ref (a 8), .ref (a 9), .ref (a 10), .ref (a 11), .ref (a 12), .ref (a 13), .ref (a 14), .ref (a 15), .ref (a 16), .ref (a 17), .int (nI n17), .ref (a 18), .ref (a 19), .ref (a 20), .ref (a 21), .int v19, .int v20, .int v21, .int v22, .int (nI n23), .int (nI n25), .ref (a 22), .ref (a 23), .ref (a 24), .ref (a 25), .ref (a 26), .ref (a 27), .ref (a 28), .ref (a 29), .ref (a 30), .int v27]) := by rw [hw73]; exact set_ne k67 (by decide)
  have k76 : w72[1]? = some (iA E (a 1) 382 (upd (upd (upd (upd (upd f30 (0 + t0) v32) (48 + t0) (nI n40)) (96 + t0) (nI n50)) (144 + t0) (nI n60)) (192 + t0) v70)) := by rw [hw73]; exact set_eq k68
  have kp77 := keeps_set kp69 hw73 (by first | exact rfl | decide | omega | (dsimp only; omega))
  refine x_aload_n C dX12_puts_92 rfl 0 rfl rfl ?_
  refine x_get C (ci := 11) (k := 0) 0 k75 rfl in_X12 (by decide) w_1118 rfl dX12_puts_93 rfl ?_
  refine x_sipush C (v := 240) dX12_puts_96 (by decide) rfl ?_
  refine x_iload_n C dX12_puts_99 rfl 2 rfl rfl ?_
  refine x_iadd C (v := (nI (240 + t0))) dX12_puts_100 (nI_add 240 t0) rfl ?_
  refine x_aload_n C dX12_puts_101 rfl 0 rfl rfl ?_
  refine x_get C (ci := 11) (k := 0) 0 k75 rfl in_X12 (by decide) w_1118 rfl dX12_puts_102 rfl ?_
  refine x_sipush C (v := 240) dX12_puts_105 (by decide) rfl ?_
  refine x_iload_n C dX12_puts_108 rfl 1 rfl rfl ?_
  refine x_iadd C (v := (nI (240 + f0))) dX12_puts_109 (nI_add 240 f0) rfl ?_
  refine x_iald C (v := ((upd (upd (upd (upd (upd f30 (0 + t0) v32) (48 + t0) (nI n40)) (96 + t0) (nI n50)) (144 + t0) (nI n60)) (192 + t0) v70) (nI (240 + f0)).toNatClampNeg)) 1 k76 (vp_in_nI (by omega) (by decide)) rfl dX12_puts_110 rfl ?_
  refine x_any (fun v78 => ?_)
  have pf79 : NB (upd (upd (upd (upd (upd (upd f30 (0 + t0) v32) (48 + t0) (nI n40)) (96 + t0) (nI n50)) (144 + t0) (nI n60)) (192 + t0) v70) (240 + t0) v78) := NB_free pf71 (by unfold bd; omega)
  obtain ⟨w80, hw81⟩ : ∃ w : va_W, w = List.set w72 1 (iA E (a 1) 382 (upd (upd (upd (upd (upd (upd f30 (0 + t0) v32) (48 + t0) (nI n40)) (96 + t0) (nI n50)) (144 + t0) (nI n60)) (192 + t0) v70) (240 + t0) v78)) := ⟨_, rfl⟩
  refine x_iask C (240 + t0) (nI_clamp (by omega)) (nI_pos (by omega)) (by omega) 1 k76 hw81.symm dX12_puts_111 rfl ?_
  have hW82 : WX (okM E a cd) w80 := by rw [hw81]; exact hW74.set (k := 1) rfl ⟨_, pf79, rfl⟩
  have k83 : w80[0]? = some (ob (a 0) 11 [.ref (a 1), .ref (a 2), .ref (a 3), .ref (a 4), .int (nI n2), .int (nI n4), .int (nI n6), .int v8, .int v9, .int v10, .int (nI n11), .int (nI n13), .int (nI n15), .int (nI (cd.2.2.2.2.2)), .ref (a 5), .ref (a 6), .ref (a 7), .ref (a 8), .ref (a 9), .ref (a 10), .ref (a 11), .ref (a 12), .ref (a 13), .ref (a 14), .ref (a 15), .ref (a 16), .ref (a 17), .int (nI n17), .ref (a 18), .ref (a 19), .ref (a 20), .ref (a 21), .int v19, .int v20, .int v21, .int v22, .int (nI n23), .int (nI n25), .ref (a 22), .ref (a 23), .ref (a 24), .ref (a 25), .ref (a 26), .ref (a 27), .ref (a 28), .ref (a 29), .ref (a 30), .int v27]) := by rw [hw81]; exact set_ne k75 (by decide)
  have k84 : w80[1]? = some (iA E (a 1) 382 (upd (upd (upd (upd (upd (upd f30 (0 + t0) v32) (48 + t0) (nI n40)) (96 + t0) (nI n50)) (144 + t0) (nI n60)) (192 + t0) v70) (240 + t0) v78)) := by rw [hw81]; exact set_eq k76
  have kp85 := keeps_set kp77 hw81 (by first | exact rfl | decide | omega | (dsimp only; omega))
  exact x_vret C hr hlk dX12_puts_112 ⟨hW82, kp85⟩
theorem dX12_clean_0 : decode cX12_clean 0 = .ok (.iconst 0, 1) := by decide +kernel
theorem dX12_clean_1 : decode cX12_clean 1 = .ok (.istore_n 1, 1) := by decide +kernel
theorem dX12_clean_2 : decode cX12_clean 2 = .ok (.iconst 0, 1) := by decide +kernel
theorem dX12_clean_3 : decode cX12_clean 3 = .ok (.istore_n 2, 1) := by decide +kernel
theorem dX12_clean_4 : decode cX12_clean 4 = .ok (.iload_n 2, 1) := by decide +kernel
theorem dX12_clean_5 : decode cX12_clean 5 = .ok (.aload_n 0, 1) := by decide +kernel
theorem dX12_clean_6 : decode cX12_clean 6 = .ok (.getfield 7, 3) := by decide +kernel
theorem dX12_clean_9 : decode cX12_clean 9 = .ok (.sipush 381, 3) := by decide +kernel
theorem dX12_clean_12 : decode cX12_clean 12 = .ok (.iaload, 1) := by decide +kernel
theorem dX12_clean_13 : decode cX12_clean 13 = .ok (.if_icmp .ge 35, 3) := by decide +kernel
theorem dX12_clean_16 : decode cX12_clean 16 = .ok (.aload_n 0, 1) := by decide +kernel
theorem dX12_clean_17 : decode cX12_clean 17 = .ok (.getfield 7, 3) := by decide +kernel
theorem dX12_clean_20 : decode cX12_clean 20 = .ok (.sipush 240, 3) := by decide +kernel
theorem dX12_clean_23 : decode cX12_clean 23 = .ok (.iload_n 2, 1) := by decide +kernel
theorem dX12_clean_24 : decode cX12_clean 24 = .ok (.iadd, 1) := by decide +kernel
theorem dX12_clean_25 : decode cX12_clean 25 = .ok (.iaload, 1) := by decide +kernel
theorem dX12_clean_26 : decode cX12_clean 26 = .ok (.ifCond .eq 6, 3) := by decide +kernel
theorem dX12_clean_29 : decode cX12_clean 29 = .ok (.goto 13, 3) := by decide +kernel
theorem dX12_clean_32 : decode cX12_clean 32 = .ok (.aload_n 0, 1) := by decide +kernel
theorem dX12_clean_33 : decode cX12_clean 33 = .ok (.iload_n 2, 1) := by decide +kernel
theorem dX12_clean_34 : decode cX12_clean 34 = .ok (.iload_n 1, 1) := by decide +kernel
theorem dX12_clean_35 : decode cX12_clean 35 = .ok (.invokevirtual 119, 3) := by decide +kernel
theorem dX12_clean_38 : decode cX12_clean 38 = .ok (.iload_n 1, 1) := by decide +kernel
theorem dX12_clean_39 : decode cX12_clean 39 = .ok (.iconst 1, 1) := by decide +kernel
theorem dX12_clean_40 : decode cX12_clean 40 = .ok (.iadd, 1) := by decide +kernel
theorem dX12_clean_41 : decode cX12_clean 41 = .ok (.istore_n 1, 1) := by decide +kernel
theorem dX12_clean_42 : decode cX12_clean 42 = .ok (.iinc 2 1, 3) := by decide +kernel
theorem dX12_clean_45 : decode cX12_clean 45 = .ok (.goto (-41), 3) := by decide +kernel
theorem dX12_clean_48 : decode cX12_clean 48 = .ok (.aload_n 0, 1) := by decide +kernel
theorem dX12_clean_49 : decode cX12_clean 49 = .ok (.getfield 7, 3) := by decide +kernel
theorem dX12_clean_52 : decode cX12_clean 52 = .ok (.sipush 381, 3) := by decide +kernel
theorem dX12_clean_55 : decode cX12_clean 55 = .ok (.iaload, 1) := by decide +kernel
theorem dX12_clean_56 : decode cX12_clean 56 = .ok (.iload_n 1, 1) := by decide +kernel
theorem dX12_clean_57 : decode cX12_clean 57 = .ok (.isub, 1) := by decide +kernel
theorem dX12_clean_58 : decode cX12_clean 58 = .ok (.istore_n 2, 1) := by decide +kernel
theorem dX12_clean_59 : decode cX12_clean 59 = .ok (.aload_n 0, 1) := by decide +kernel
theorem dX12_clean_60 : decode cX12_clean 60 = .ok (.getfield 7, 3) := by decide +kernel
theorem dX12_clean_63 : decode cX12_clean 63 = .ok (.sipush 381, 3) := by decide +kernel
theorem dX12_clean_66 : decode cX12_clean 66 = .ok (.iload_n 1, 1) := by decide +kernel
theorem dX12_clean_67 : decode cX12_clean 67 = .ok (.iastore, 1) := by decide +kernel
theorem dX12_clean_68 : decode cX12_clean 68 = .ok (.iload_n 2, 1) := by decide +kernel
theorem dX12_clean_69 : decode cX12_clean 69 = .ok (.ireturn, 1) := by decide +kernel
set_option maxRecDepth 20000 in
set_option maxHeartbeats 4000000 in
theorem m_clean (E : xE) (l : Launch) (a : Nat → Nat) (cd : Cd) (hG : Good cd) (ws : va_W) (hW : WX (okM E a cd) ws) : xI E l yX12_clean cX12_clean 3 (some .int) 8 [.ref (a 0)] ws (fun r w => WX (okM E a cd) w) := by
  refine xI_start (lv := [(0, .ref (a 0))]) RX12 (by decide) rfl (Nat.le_of_ble_eq_true rfl) rfl (fun p e s m below meth c A C hr hlk => ?_)
  refine x_iconst C (v := 0) dX12_clean_0 (by decide) rfl ?_
  refine x_istore_n C (lv' := [(1, .int 0), (0, .ref (a 0))]) dX12_clean_1 rfl (by decide) rfl rfl ?_
  refine x_iconst C (v := 0) dX12_clean_2 (by decide) rfl ?_
  refine x_istore_n C (lv' := [(2, .int 0), (1, .int 0), (0, .ref (a 0))]) dX12_clean_3 rfl (by decide) rfl rfl ?_
  have loop4 : ∀ (fu4 : Nat) (lf : Nat) (i : Nat) (wl4 : va_W), WX (okM E a cd) wl4 → 48 - i < fu4 → lf ≤ i → i ≤ 48 → X E p l e (xRm 8 0 0) s m ([.ref (a 0)] : List Value).toArray below meth c A 3 0 0 (MQ below (va_Qi (fun r w => WX (okM E a cd) w) (xB E A) A) ([.ref (a 0)] : List Value).toArray s 0 0 A) wl4 4 [(0, .ref (a 0)), (1, .int (nI lf)), (2, .int (nI i))] [] := by
    intro fu4
    induction fu4 with
    | zero => intro lf i wl4 _ q; omega
    | succ fu4 ih4 =>
      intro lf i wl4 hWl4 me4 iv4_0 iv4_1
      refine x_iload_n C dX12_clean_4 rfl 2 rfl rfl ?_
      refine x_aload_n C dX12_clean_5 rfl 0 rfl rfl ?_
      obtain ⟨_, k1, n2, n4, n6, v8, v9, v10, n11, n13, n15, n17, v19, v20, v21, v22, n23, n25, v27, bn3, bn5, bn7, bn12, bn14, bn16, bn18, bn24, bn26, zv28, rfl⟩ := hWl4 0 _ rfl
      refine x_get C (ci := 11) (k := 0) 0 k1 rfl in_X12 (by decide) w_1118 rfl dX12_clean_6 rfl ?_
      refine x_sipush C (v := 381) dX12_clean_9 (by decide) rfl ?_
      obtain ⟨_, k29, f30, pf31, rfl⟩ := hWl4 1 _ rfl
      obtain ⟨n32, hn33, en34⟩ := NB_many pf31
      refine x_ialk C (v := nI n32) 381 (by decide) (by decide) (by decide) 1 k29 en34 dX12_clean_12 rfl ?_
      refine x_icmp_ge C (tgt := 48) dX12_clean_13 (by decide) rfl (fun c35 => ?_) (fun c35 => ?_)
      · skip
        have nf36 := nI_le' (a := n32) (b := i) c35 (by omega) (by omega)
        refine x_aload_n C dX12_clean_48 rfl 0 rfl rfl ?_
        refine x_get C (ci := 11) (k := 0) 0 k1 rfl in_X12 (by decide) w_1118 rfl dX12_clean_49 rfl ?_
        refine x_sipush C (v := 381) dX12_clean_52 (by decide) rfl ?_
        refine x_ialk C (v := nI n32) 381 (by decide) (by decide) (by decide) 1 k29 en34 dX12_clean_55 rfl ?_
        refine x_iload_n C dX12_clean_56 rfl 1 rfl rfl ?_
        refine x_isub C (v := ((nI n32) - (nI lf))) dX12_clean_57 rfl rfl ?_
        refine x_any (fun v40 => ?_)
        refine x_istore_n C (lv' := [(2, .int v40), (0, .ref (a 0)), (1, .int (nI lf))]) dX12_clean_58 rfl (by decide) rfl rfl ?_
        refine x_aload_n C dX12_clean_59 rfl 1 rfl rfl ?_
        refine x_get C (ci := 11) (k := 0) 0 k1 rfl in_X12 (by decide) w_1118 rfl dX12_clean_60 rfl ?_
        refine x_sipush C (v := 381) dX12_clean_63 (by decide) rfl ?_
        refine x_iload_n C dX12_clean_66 rfl 2 rfl rfl ?_
        have pf41 : NB (upd f30 381 (nI lf)) := NB_put_many pf31 (by omega)
        obtain ⟨w42, hw43⟩ : ∃ w : va_W, w = List.set wl4 1 (iA E (a 1) 382 (upd f30 381 (nI lf))) := ⟨_, rfl⟩
        refine x_iask C 381 (by decide) (by decide) (by decide) 1 k29 hw43.symm dX12_clean_67 rfl ?_
        have hW44 : WX (okM E a cd) w42 := by rw [hw43]; exact hWl4.set (k := 1) rfl ⟨_, pf41, rfl⟩
        have k45 : w42[0]? = some (ob (a 0) 11 [.ref (a 1), .ref (a 2), .ref (a 3), .ref (a 4), .int (nI n2), .int (nI n4), .int (nI n6), .int v8, .int v9, .int v10, .int (nI n11), .int (nI n13), .int (nI n15), .int (nI (cd.2.2.2.2.2)), .ref (a 5), .ref (a 6), .ref (a 7), .ref (a 8), .ref (a 9), .ref (a 10), .ref (a 11), .ref (a 12), .ref (a 13), .ref (a 14), .ref (a 15), .ref (a 16), .ref (a 17), .int (nI n17), .ref (a 18), .ref (a 19), .ref (a 20), .ref (a 21), .int v19, .int v20, .int v21, .int v22, .int (nI n23), .int (nI n25), .ref (a 22), .ref (a 23), .ref (a 24), .ref (a 25), .ref (a 26), .ref (a 27), .ref (a 28), .ref (a 29), .ref (a 30), .int v27]) := by rw [hw43]; exact set_ne k1 (by decide)
        have k46 : w42[1]? = some (iA E (a 1) 382 (upd f30 381 (nI lf))) := by rw [hw43]; exact set_eq k29
        refine x_iload_n C dX12_clean_68 rfl 0 rfl rfl ?_
        exact x_zret C hr hlk rfl dX12_clean_69 hW44
      · skip
        have nf47 := nI_nle' (a := n32) (b := i) c35 (by omega) (by omega)
        refine x_aload_n C dX12_clean_16 rfl 0 rfl rfl ?_
        refine x_get C (ci := 11) (k := 0) 0 k1 rfl in_X12 (by decide) w_1118 rfl dX12_clean_17 rfl ?_
        refine x_sipush C (v := 240) dX12_clean_20 (by decide) rfl ?_
        refine x_iload_n C dX12_clean_23 rfl 2 rfl rfl ?_
        refine x_iadd C (v := (nI (240 + i))) dX12_clean_24 (nI_add 240 i) rfl ?_
        refine x_iald C (v := (f30 (nI (240 + i)).toNatClampNeg)) 1 k29 (vp_in_nI (by omega) (by decide)) rfl dX12_clean_25 rfl ?_
        refine x_any (fun v48 => ?_)
        refine x_if_eq C (tgt := 32) dX12_clean_26 (by decide) rfl (fun c49 => ?_) (fun c49 => ?_)
        · skip
          refine x_aload_n C dX12_clean_32 rfl 0 rfl rfl ?_
          refine x_iload_n C dX12_clean_33 rfl 2 rfl rfl ?_
          refine x_iload_n C dX12_clean_34 rfl 1 rfl rfl ?_
          refine x_vv C (As := [.int (nI i), .int (nI lf)]) (rest := []) (m_puts E l a cd hG wl4 hWl4 i lf (by omega) (by omega)) mf_X12_puts w_1297 0 k1 rfl rfl rfl (Nat.le_of_ble_eq_true rfl) ⟨(Nat.le_of_ble_eq_true rfl), (Nat.le_of_ble_eq_true rfl)⟩ ⟨(Nat.le_of_ble_eq_true rfl), (Nat.le_of_ble_eq_true rfl)⟩ dX12_clean_35 rfl (fun w52 h50 => ?_)
          obtain ⟨hW53, kq54⟩ := h50
          have k55 : w52[0]? = some (ob (a 0) 11 [.ref (a 1), .ref (a 2), .ref (a 3), .ref (a 4), .int (nI n2), .int (nI n4), .int (nI n6), .int v8, .int v9, .int v10, .int (nI n11), .int (nI n13), .int (nI n15), .int (nI (cd.2.2.2.2.2)), .ref (a 5), .ref (a 6), .ref (a 7), .ref (a 8), .ref (a 9), .ref (a 10), .ref (a 11), .ref (a 12), .ref (a 13), .ref (a 14), .ref (a 15), .ref (a 16), .ref (a 17), .int (nI n17), .ref (a 18), .ref (a 19), .ref (a 20), .ref (a 21), .int v19, .int v20, .int v21, .int v22, .int (nI n23), .int (nI n25), .ref (a 22), .ref (a 23), .ref (a 24), .ref (a 25), .ref (a 26), .ref (a 27), .ref (a 28), .ref (a 29), .ref (a 30), .int v27]) := keeps_at kq54 k1 (by first | decide | omega | (dsimp only; omega))
          refine x_iload_n C dX12_clean_38 rfl 1 rfl rfl ?_
          refine x_iconst C (v := 1) dX12_clean_39 (by decide) rfl ?_
          refine x_iadd C (v := (nI (lf + 1))) dX12_clean_40 (nI_add lf 1) rfl ?_
          refine x_istore_n C (lv' := [(1, .int (nI (lf + 1))), (0, .ref (a 0)), (2, .int (nI i))]) dX12_clean_41 rfl (by decide) rfl rfl ?_
          refine x_iinc C (v := (nI (i + 1))) (lv' := [(2, .int (nI (i + 1))), (1, .int (nI (lf + 1))), (0, .ref (a 0))]) dX12_clean_42 2 rfl (nI_add i 1) (by decide) rfl rfl ?_
          refine x_goto C (tgt := 4) dX12_clean_45 (by decide) ?_
          refine x_lv (lv1 := [(0, .ref (a 0)), (1, .int (nI (lf + 1))), (2, .int (nI (i + 1)))]) [2, 1, 0] rfl ?_
          exact ih4 (lf + 1) (i + 1) w52 hW53 (by omega) (by omega) (by omega)
        · skip
          refine x_goto C (tgt := 42) dX12_clean_29 (by decide) ?_
          refine x_iinc C (v := (nI (i + 1))) (lv' := [(2, .int (nI (i + 1))), (0, .ref (a 0)), (1, .int (nI lf))]) dX12_clean_42 2 rfl (nI_add i 1) (by decide) rfl rfl ?_
          refine x_goto C (tgt := 4) dX12_clean_45 (by decide) ?_
          refine x_lv (lv1 := [(0, .ref (a 0)), (1, .int (nI lf)), (2, .int (nI (i + 1)))]) [1, 2, 0] rfl ?_
          exact ih4 lf (i + 1) wl4 hWl4 (by omega) (by omega) (by omega)
  refine x_lv (lv1 := [(0, .ref (a 0)), (1, .int 0), (2, .int 0)]) [2, 1, 0] rfl ?_
  exact loop4 _ 0 0 ws hW (Nat.lt_succ_self _) (by omega) (by omega)
theorem dX12_copies_0 : decode cX12_copies 0 = .ok (.iconst 0, 1) := by decide +kernel
theorem dX12_copies_1 : decode cX12_copies 1 = .ok (.istore_n 2, 1) := by decide +kernel
theorem dX12_copies_2 : decode cX12_copies 2 = .ok (.iload_n 2, 1) := by decide +kernel
theorem dX12_copies_3 : decode cX12_copies 3 = .ok (.sipush 382, 3) := by decide +kernel
theorem dX12_copies_6 : decode cX12_copies 6 = .ok (.if_icmp .ge 15, 3) := by decide +kernel
theorem dX12_copies_9 : decode cX12_copies 9 = .ok (.aload_n 1, 1) := by decide +kernel
theorem dX12_copies_10 : decode cX12_copies 10 = .ok (.iload_n 2, 1) := by decide +kernel
theorem dX12_copies_11 : decode cX12_copies 11 = .ok (.aload_n 0, 1) := by decide +kernel
theorem dX12_copies_12 : decode cX12_copies 12 = .ok (.iload_n 2, 1) := by decide +kernel
theorem dX12_copies_13 : decode cX12_copies 13 = .ok (.iaload, 1) := by decide +kernel
theorem dX12_copies_14 : decode cX12_copies 14 = .ok (.iastore, 1) := by decide +kernel
theorem dX12_copies_15 : decode cX12_copies 15 = .ok (.iinc 2 1, 3) := by decide +kernel
theorem dX12_copies_18 : decode cX12_copies 18 = .ok (.goto (-16), 3) := by decide +kernel
theorem dX12_copies_21 : decode cX12_copies 21 = .ok (.return_, 1) := by decide +kernel
set_option maxRecDepth 20000 in
set_option maxHeartbeats 4000000 in
theorem m_copies12 (E : xE) (l : Launch) (a : Nat → Nat) (cd : Cd) (hG : Good cd) (ws : va_W) (hW : WX (okM E a cd) ws) : xV E l yX12_copies cX12_copies 3 0 0 0 [.ref (a 1), .ref (a 2)] ws (fun w => WX (okM E a cd) w ∧ keeps ws w (fun q => q = 2)) := by
  refine xV_start (lv := [(0, .ref (a 1)), (1, .ref (a 2))]) RX12 (by decide) rfl (Nat.le_of_ble_eq_true rfl) rfl (fun p e s m below meth c A C hr hlk hin => ?_)
  have kp0 : keeps ws ws (fun q => q = 2) := keeps_rf
  refine x_iconst C (v := 0) dX12_copies_0 (by decide) rfl ?_
  refine x_istore_n C (lv' := [(2, .int 0), (0, .ref (a 1)), (1, .ref (a 2))]) dX12_copies_1 rfl (by decide) rfl rfl ?_
  have loop2 : ∀ (fu2 : Nat) (k : Nat) (wl2 : va_W), WX (okM E a cd) wl2 → 382 - k < fu2 → k ≤ 382 → keeps ws wl2 (fun q => q = 2) → X E p l e (xRm 0 0 0) s m ([.ref (a 1), .ref (a 2)] : List Value).toArray below meth c A 3 0 0 (MQ below (va_Qv (fun w => WX (okM E a cd) w ∧ keeps ws w (fun q => q = 2)) (xB E A) A) ([.ref (a 1), .ref (a 2)] : List Value).toArray s 0 0 A) wl2 2 [(0, .ref (a 1)), (1, .ref (a 2)), (2, .int (nI k))] [] := by
    intro fu2
    induction fu2 with
    | zero => intro k wl2 _ q; omega
    | succ fu2 ih2 =>
      intro k wl2 hWl2 me2 iv2_0 kq2
      refine x_iload_n C dX12_copies_2 rfl 2 rfl rfl ?_
      refine x_sipush C (v := 382) dX12_copies_3 (by decide) rfl ?_
      refine x_icmp_ge C (tgt := 21) dX12_copies_6 (by decide) rfl (fun c1 => ?_) (fun c1 => ?_)
      · skip
        have nf2 := nI_le' (a := 382) (b := k) c1 (by omega) (by omega)
        exact x_vret C hr hlk dX12_copies_21 ⟨hWl2, kq2⟩
      · skip
        have nf3 := nI_nle' (a := 382) (b := k) c1 (by omega) (by omega)
        refine x_aload_n C dX12_copies_9 rfl 1 rfl rfl ?_
        refine x_iload_n C dX12_copies_10 rfl 2 rfl rfl ?_
        refine x_aload_n C dX12_copies_11 rfl 0 rfl rfl ?_
        refine x_iload_n C dX12_copies_12 rfl 2 rfl rfl ?_
        obtain ⟨_, k4, f5, pf6, rfl⟩ := hWl2 1 _ rfl
        refine x_ialk C (v := (f5 k)) k (nI_clamp (by omega)) (nI_pos (by omega)) (by omega) 1 k4 rfl dX12_copies_13 rfl ?_
        obtain ⟨_, k7, f8, pf9, rfl⟩ := hWl2 2 _ rfl
        have pf10 : NB (upd f8 k (f5 k)) := NB_mix pf6 pf9
        obtain ⟨w11, hw12⟩ : ∃ w : va_W, w = List.set wl2 2 (iA E (a 2) 382 (upd f8 k (f5 k))) := ⟨_, rfl⟩
        refine x_iask C k (nI_clamp (by omega)) (nI_pos (by omega)) (by omega) 2 k7 hw12.symm dX12_copies_14 rfl ?_
        have hW13 : WX (okM E a cd) w11 := by rw [hw12]; exact hWl2.set (k := 2) rfl ⟨_, pf10, rfl⟩
        have k14 : w11[1]? = some (iA E (a 1) 382 f5) := by rw [hw12]; exact set_ne k4 (by decide)
        have k15 : w11[2]? = some (iA E (a 2) 382 (upd f8 k (f5 k))) := by rw [hw12]; exact set_eq k7
        have kp16 := keeps_set kq2 hw12 (by first | exact rfl | decide | omega | (dsimp only; omega))
        refine x_iinc C (v := (nI (k + 1))) (lv' := [(2, .int (nI (k + 1))), (0, .ref (a 1)), (1, .ref (a 2))]) dX12_copies_15 2 rfl (nI_add k 1) (by decide) rfl rfl ?_
        refine x_goto C (tgt := 2) dX12_copies_18 (by decide) ?_
        refine x_lv (lv1 := [(0, .ref (a 1)), (1, .ref (a 2)), (2, .int (nI (k + 1)))]) [1, 2, 0] rfl ?_
        exact ih2 (k + 1) w11 hW13 (by omega) (by omega) kp16
  refine x_lv (lv1 := [(0, .ref (a 1)), (1, .ref (a 2)), (2, .int 0)]) [1, 2, 0] rfl ?_
  exact loop2 _ 0 ws hW (Nat.lt_succ_self _) (by omega) kp0
set_option maxRecDepth 20000 in
set_option maxHeartbeats 4000000 in
theorem m_copies13 (E : xE) (l : Launch) (a : Nat → Nat) (cd : Cd) (hG : Good cd) (ws : va_W) (hW : WX (okM E a cd) ws) : xV E l yX12_copies cX12_copies 3 0 0 0 [.ref (a 1), .ref (a 3)] ws (fun w => WX (okM E a cd) w ∧ keeps ws w (fun q => q = 3)) := by
  refine xV_start (lv := [(0, .ref (a 1)), (1, .ref (a 3))]) RX12 (by decide) rfl (Nat.le_of_ble_eq_true rfl) rfl (fun p e s m below meth c A C hr hlk hin => ?_)
  have kp0 : keeps ws ws (fun q => q = 3) := keeps_rf
  refine x_iconst C (v := 0) dX12_copies_0 (by decide) rfl ?_
  refine x_istore_n C (lv' := [(2, .int 0), (0, .ref (a 1)), (1, .ref (a 3))]) dX12_copies_1 rfl (by decide) rfl rfl ?_
  have loop2 : ∀ (fu2 : Nat) (k : Nat) (wl2 : va_W), WX (okM E a cd) wl2 → 382 - k < fu2 → k ≤ 382 → keeps ws wl2 (fun q => q = 3) → X E p l e (xRm 0 0 0) s m ([.ref (a 1), .ref (a 3)] : List Value).toArray below meth c A 3 0 0 (MQ below (va_Qv (fun w => WX (okM E a cd) w ∧ keeps ws w (fun q => q = 3)) (xB E A) A) ([.ref (a 1), .ref (a 3)] : List Value).toArray s 0 0 A) wl2 2 [(0, .ref (a 1)), (1, .ref (a 3)), (2, .int (nI k))] [] := by
    intro fu2
    induction fu2 with
    | zero => intro k wl2 _ q; omega
    | succ fu2 ih2 =>
      intro k wl2 hWl2 me2 iv2_0 kq2
      refine x_iload_n C dX12_copies_2 rfl 2 rfl rfl ?_
      refine x_sipush C (v := 382) dX12_copies_3 (by decide) rfl ?_
      refine x_icmp_ge C (tgt := 21) dX12_copies_6 (by decide) rfl (fun c1 => ?_) (fun c1 => ?_)
      · skip
        have nf2 := nI_le' (a := 382) (b := k) c1 (by omega) (by omega)
        exact x_vret C hr hlk dX12_copies_21 ⟨hWl2, kq2⟩
      · skip
        have nf3 := nI_nle' (a := 382) (b := k) c1 (by omega) (by omega)
        refine x_aload_n C dX12_copies_9 rfl 1 rfl rfl ?_
        refine x_iload_n C dX12_copies_10 rfl 2 rfl rfl ?_
        refine x_aload_n C dX12_copies_11 rfl 0 rfl rfl ?_
        refine x_iload_n C dX12_copies_12 rfl 2 rfl rfl ?_
        obtain ⟨_, k4, f5, pf6, rfl⟩ := hWl2 1 _ rfl
        refine x_ialk C (v := (f5 k)) k (nI_clamp (by omega)) (nI_pos (by omega)) (by omega) 1 k4 rfl dX12_copies_13 rfl ?_
        obtain ⟨_, k7, f8, pf9, rfl⟩ := hWl2 3 _ rfl
        have pf10 : NB (upd f8 k (f5 k)) := NB_mix pf6 pf9
        obtain ⟨w11, hw12⟩ : ∃ w : va_W, w = List.set wl2 3 (iA E (a 3) 382 (upd f8 k (f5 k))) := ⟨_, rfl⟩
        refine x_iask C k (nI_clamp (by omega)) (nI_pos (by omega)) (by omega) 3 k7 hw12.symm dX12_copies_14 rfl ?_
        have hW13 : WX (okM E a cd) w11 := by rw [hw12]; exact hWl2.set (k := 3) rfl ⟨_, pf10, rfl⟩
        have k14 : w11[1]? = some (iA E (a 1) 382 f5) := by rw [hw12]; exact set_ne k4 (by decide)
        have k15 : w11[3]? = some (iA E (a 3) 382 (upd f8 k (f5 k))) := by rw [hw12]; exact set_eq k7
        have kp16 := keeps_set kq2 hw12 (by first | exact rfl | decide | omega | (dsimp only; omega))
        refine x_iinc C (v := (nI (k + 1))) (lv' := [(2, .int (nI (k + 1))), (0, .ref (a 1)), (1, .ref (a 3))]) dX12_copies_15 2 rfl (nI_add k 1) (by decide) rfl rfl ?_
        refine x_goto C (tgt := 2) dX12_copies_18 (by decide) ?_
        refine x_lv (lv1 := [(0, .ref (a 1)), (1, .ref (a 3)), (2, .int (nI (k + 1)))]) [1, 2, 0] rfl ?_
        exact ih2 (k + 1) w11 hW13 (by omega) (by omega) kp16
  refine x_lv (lv1 := [(0, .ref (a 1)), (1, .ref (a 3)), (2, .int 0)]) [1, 2, 0] rfl ?_
  exact loop2 _ 0 ws hW (Nat.lt_succ_self _) (by omega) kp0
set_option maxRecDepth 20000 in
set_option maxHeartbeats 4000000 in
theorem m_copies31 (E : xE) (l : Launch) (a : Nat → Nat) (cd : Cd) (hG : Good cd) (ws : va_W) (hW : WX (okM E a cd) ws) : xV E l yX12_copies cX12_copies 3 0 0 0 [.ref (a 3), .ref (a 1)] ws (fun w => WX (okM E a cd) w ∧ keeps ws w (fun q => q = 1)) := by
  refine xV_start (lv := [(0, .ref (a 3)), (1, .ref (a 1))]) RX12 (by decide) rfl (Nat.le_of_ble_eq_true rfl) rfl (fun p e s m below meth c A C hr hlk hin => ?_)
  have kp0 : keeps ws ws (fun q => q = 1) := keeps_rf
  refine x_iconst C (v := 0) dX12_copies_0 (by decide) rfl ?_
  refine x_istore_n C (lv' := [(2, .int 0), (0, .ref (a 3)), (1, .ref (a 1))]) dX12_copies_1 rfl (by decide) rfl rfl ?_
  have loop2 : ∀ (fu2 : Nat) (k : Nat) (wl2 : va_W), WX (okM E a cd) wl2 → 382 - k < fu2 → k ≤ 382 → keeps ws wl2 (fun q => q = 1) → X E p l e (xRm 0 0 0) s m ([.ref (a 3), .ref (a 1)] : List Value).toArray below meth c A 3 0 0 (MQ below (va_Qv (fun w => WX (okM E a cd) w ∧ keeps ws w (fun q => q = 1)) (xB E A) A) ([.ref (a 3), .ref (a 1)] : List Value).toArray s 0 0 A) wl2 2 [(0, .ref (a 3)), (1, .ref (a 1)), (2, .int (nI k))] [] := by
    intro fu2
    induction fu2 with
    | zero => intro k wl2 _ q; omega
    | succ fu2 ih2 =>
      intro k wl2 hWl2 me2 iv2_0 kq2
      refine x_iload_n C dX12_copies_2 rfl 2 rfl rfl ?_
      refine x_sipush C (v := 382) dX12_copies_3 (by decide) rfl ?_
      refine x_icmp_ge C (tgt := 21) dX12_copies_6 (by decide) rfl (fun c1 => ?_) (fun c1 => ?_)
      · skip
        have nf2 := nI_le' (a := 382) (b := k) c1 (by omega) (by omega)
        exact x_vret C hr hlk dX12_copies_21 ⟨hWl2, kq2⟩
      · skip
        have nf3 := nI_nle' (a := 382) (b := k) c1 (by omega) (by omega)
        refine x_aload_n C dX12_copies_9 rfl 1 rfl rfl ?_
        refine x_iload_n C dX12_copies_10 rfl 2 rfl rfl ?_
        refine x_aload_n C dX12_copies_11 rfl 0 rfl rfl ?_
        refine x_iload_n C dX12_copies_12 rfl 2 rfl rfl ?_
        obtain ⟨_, k4, f5, pf6, rfl⟩ := hWl2 3 _ rfl
        refine x_ialk C (v := (f5 k)) k (nI_clamp (by omega)) (nI_pos (by omega)) (by omega) 3 k4 rfl dX12_copies_13 rfl ?_
        obtain ⟨_, k7, f8, pf9, rfl⟩ := hWl2 1 _ rfl
        have pf10 : NB (upd f8 k (f5 k)) := NB_mix pf6 pf9
        obtain ⟨w11, hw12⟩ : ∃ w : va_W, w = List.set wl2 1 (iA E (a 1) 382 (upd f8 k (f5 k))) := ⟨_, rfl⟩
        refine x_iask C k (nI_clamp (by omega)) (nI_pos (by omega)) (by omega) 1 k7 hw12.symm dX12_copies_14 rfl ?_
        have hW13 : WX (okM E a cd) w11 := by rw [hw12]; exact hWl2.set (k := 1) rfl ⟨_, pf10, rfl⟩
        have k14 : w11[3]? = some (iA E (a 3) 382 f5) := by rw [hw12]; exact set_ne k4 (by decide)
        have k15 : w11[1]? = some (iA E (a 1) 382 (upd f8 k (f5 k))) := by rw [hw12]; exact set_eq k7
        have kp16 := keeps_set kq2 hw12 (by first | exact rfl | decide | omega | (dsimp only; omega))
        refine x_iinc C (v := (nI (k + 1))) (lv' := [(2, .int (nI (k + 1))), (0, .ref (a 3)), (1, .ref (a 1))]) dX12_copies_15 2 rfl (nI_add k 1) (by decide) rfl rfl ?_
        refine x_goto C (tgt := 2) dX12_copies_18 (by decide) ?_
        refine x_lv (lv1 := [(0, .ref (a 3)), (1, .ref (a 1)), (2, .int (nI (k + 1)))]) [1, 2, 0] rfl ?_
        exact ih2 (k + 1) w11 hW13 (by omega) (by omega) kp16
  refine x_lv (lv1 := [(0, .ref (a 3)), (1, .ref (a 1)), (2, .int 0)]) [1, 2, 0] rfl ?_
  exact loop2 _ 0 ws hW (Nat.lt_succ_self _) (by omega) kp0
set_option maxRecDepth 20000 in
set_option maxHeartbeats 4000000 in
theorem m_copies21 (E : xE) (l : Launch) (a : Nat → Nat) (cd : Cd) (hG : Good cd) (ws : va_W) (hW : WX (okM E a cd) ws) : xV E l yX12_copies cX12_copies 3 0 0 0 [.ref (a 2), .ref (a 1)] ws (fun w => WX (okM E a cd) w ∧ keeps ws w (fun q => q = 1)) := by
  refine xV_start (lv := [(0, .ref (a 2)), (1, .ref (a 1))]) RX12 (by decide) rfl (Nat.le_of_ble_eq_true rfl) rfl (fun p e s m below meth c A C hr hlk hin => ?_)
  have kp0 : keeps ws ws (fun q => q = 1) := keeps_rf
  refine x_iconst C (v := 0) dX12_copies_0 (by decide) rfl ?_
  refine x_istore_n C (lv' := [(2, .int 0), (0, .ref (a 2)), (1, .ref (a 1))]) dX12_copies_1 rfl (by decide) rfl rfl ?_
  have loop2 : ∀ (fu2 : Nat) (k : Nat) (wl2 : va_W), WX (okM E a cd) wl2 → 382 - k < fu2 → k ≤ 382 → keeps ws wl2 (fun q => q = 1) → X E p l e (xRm 0 0 0) s m ([.ref (a 2), .ref (a 1)] : List Value).toArray below meth c A 3 0 0 (MQ below (va_Qv (fun w => WX (okM E a cd) w ∧ keeps ws w (fun q => q = 1)) (xB E A) A) ([.ref (a 2), .ref (a 1)] : List Value).toArray s 0 0 A) wl2 2 [(0, .ref (a 2)), (1, .ref (a 1)), (2, .int (nI k))] [] := by
    intro fu2
    induction fu2 with
    | zero => intro k wl2 _ q; omega
    | succ fu2 ih2 =>
      intro k wl2 hWl2 me2 iv2_0 kq2
      refine x_iload_n C dX12_copies_2 rfl 2 rfl rfl ?_
      refine x_sipush C (v := 382) dX12_copies_3 (by decide) rfl ?_
      refine x_icmp_ge C (tgt := 21) dX12_copies_6 (by decide) rfl (fun c1 => ?_) (fun c1 => ?_)
      · skip
        have nf2 := nI_le' (a := 382) (b := k) c1 (by omega) (by omega)
        exact x_vret C hr hlk dX12_copies_21 ⟨hWl2, kq2⟩
      · skip
        have nf3 := nI_nle' (a := 382) (b := k) c1 (by omega) (by omega)
        refine x_aload_n C dX12_copies_9 rfl 1 rfl rfl ?_
        refine x_iload_n C dX12_copies_10 rfl 2 rfl rfl ?_
        refine x_aload_n C dX12_copies_11 rfl 0 rfl rfl ?_
        refine x_iload_n C dX12_copies_12 rfl 2 rfl rfl ?_
        obtain ⟨_, k4, f5, pf6, rfl⟩ := hWl2 2 _ rfl
        refine x_ialk C (v := (f5 k)) k (nI_clamp (by omega)) (nI_pos (by omega)) (by omega) 2 k4 rfl dX12_copies_13 rfl ?_
        obtain ⟨_, k7, f8, pf9, rfl⟩ := hWl2 1 _ rfl
        have pf10 : NB (upd f8 k (f5 k)) := NB_mix pf6 pf9
        obtain ⟨w11, hw12⟩ : ∃ w : va_W, w = List.set wl2 1 (iA E (a 1) 382 (upd f8 k (f5 k))) := ⟨_, rfl⟩
        refine x_iask C k (nI_clamp (by omega)) (nI_pos (by omega)) (by omega) 1 k7 hw12.symm dX12_copies_14 rfl ?_
        have hW13 : WX (okM E a cd) w11 := by rw [hw12]; exact hWl2.set (k := 1) rfl ⟨_, pf10, rfl⟩
        have k14 : w11[2]? = some (iA E (a 2) 382 f5) := by rw [hw12]; exact set_ne k4 (by decide)
        have k15 : w11[1]? = some (iA E (a 1) 382 (upd f8 k (f5 k))) := by rw [hw12]; exact set_eq k7
        have kp16 := keeps_set kq2 hw12 (by first | exact rfl | decide | omega | (dsimp only; omega))
        refine x_iinc C (v := (nI (k + 1))) (lv' := [(2, .int (nI (k + 1))), (0, .ref (a 2)), (1, .ref (a 1))]) dX12_copies_15 2 rfl (nI_add k 1) (by decide) rfl rfl ?_
        refine x_goto C (tgt := 2) dX12_copies_18 (by decide) ?_
        refine x_lv (lv1 := [(0, .ref (a 2)), (1, .ref (a 1)), (2, .int (nI (k + 1)))]) [1, 2, 0] rfl ?_
        exact ih2 (k + 1) w11 hW13 (by omega) (by omega) kp16
  refine x_lv (lv1 := [(0, .ref (a 2)), (1, .ref (a 1)), (2, .int 0)]) [1, 2, 0] rfl ?_
  exact loop2 _ 0 ws hW (Nat.lt_succ_self _) (by omega) kp0
theorem dX12_howMany_0 : decode cX12_howMany 0 = .ok (.iconst 0, 1) := by decide +kernel
theorem dX12_howMany_1 : decode cX12_howMany 1 = .ok (.istore_n 2, 1) := by decide +kernel
theorem dX12_howMany_2 : decode cX12_howMany 2 = .ok (.iconst 0, 1) := by decide +kernel
theorem dX12_howMany_3 : decode cX12_howMany 3 = .ok (.istore_n 3, 1) := by decide +kernel
theorem dX12_howMany_4 : decode cX12_howMany 4 = .ok (.iload_n 3, 1) := by decide +kernel
theorem dX12_howMany_5 : decode cX12_howMany 5 = .ok (.aload_n 0, 1) := by decide +kernel
theorem dX12_howMany_6 : decode cX12_howMany 6 = .ok (.getfield 7, 3) := by decide +kernel
theorem dX12_howMany_9 : decode cX12_howMany 9 = .ok (.sipush 381, 3) := by decide +kernel
theorem dX12_howMany_12 : decode cX12_howMany 12 = .ok (.iaload, 1) := by decide +kernel
theorem dX12_howMany_13 : decode cX12_howMany 13 = .ok (.if_icmp .ge 31, 3) := by decide +kernel
theorem dX12_howMany_16 : decode cX12_howMany 16 = .ok (.iload_n 2, 1) := by decide +kernel
theorem dX12_howMany_17 : decode cX12_howMany 17 = .ok (.aload_n 0, 1) := by decide +kernel
theorem dX12_howMany_18 : decode cX12_howMany 18 = .ok (.getfield 7, 3) := by decide +kernel
theorem dX12_howMany_21 : decode cX12_howMany 21 = .ok (.sipush 240, 3) := by decide +kernel
theorem dX12_howMany_24 : decode cX12_howMany 24 = .ok (.iload_n 3, 1) := by decide +kernel
theorem dX12_howMany_25 : decode cX12_howMany 25 = .ok (.iadd, 1) := by decide +kernel
theorem dX12_howMany_26 : decode cX12_howMany 26 = .ok (.iaload, 1) := by decide +kernel
theorem dX12_howMany_27 : decode cX12_howMany 27 = .ok (.iload_n 1, 1) := by decide +kernel
theorem dX12_howMany_28 : decode cX12_howMany 28 = .ok (.if_icmp .ne 7, 3) := by decide +kernel
theorem dX12_howMany_31 : decode cX12_howMany 31 = .ok (.iconst 1, 1) := by decide +kernel
theorem dX12_howMany_32 : decode cX12_howMany 32 = .ok (.goto 4, 3) := by decide +kernel
theorem dX12_howMany_35 : decode cX12_howMany 35 = .ok (.iconst 0, 1) := by decide +kernel
theorem dX12_howMany_36 : decode cX12_howMany 36 = .ok (.iadd, 1) := by decide +kernel
theorem dX12_howMany_37 : decode cX12_howMany 37 = .ok (.istore_n 2, 1) := by decide +kernel
theorem dX12_howMany_38 : decode cX12_howMany 38 = .ok (.iinc 3 1, 3) := by decide +kernel
theorem dX12_howMany_41 : decode cX12_howMany 41 = .ok (.goto (-37), 3) := by decide +kernel
theorem dX12_howMany_44 : decode cX12_howMany 44 = .ok (.iload_n 2, 1) := by decide +kernel
theorem dX12_howMany_45 : decode cX12_howMany 45 = .ok (.ireturn, 1) := by decide +kernel
set_option maxRecDepth 20000 in
set_option maxHeartbeats 4000000 in
theorem m_howMany (E : xE) (l : Launch) (a : Nat → Nat) (cd : Cd) (hG : Good cd) (ws : va_W) (hW : WX (okM E a cd) ws) (p0 : Int32) : xI E l yX12_howMany cX12_howMany 4 (some .int) 0 [.ref (a 0), .int p0] ws (fun r w => w = ws) := by
  refine xI_start (lv := [(0, .ref (a 0)), (1, .int p0)]) RX12 (by decide) rfl (Nat.le_of_ble_eq_true rfl) rfl (fun p e s m below meth c A C hr hlk => ?_)
  refine x_iconst C (v := 0) dX12_howMany_0 (by decide) rfl ?_
  refine x_istore_n C (lv' := [(2, .int 0), (0, .ref (a 0)), (1, .int p0)]) dX12_howMany_1 rfl (by decide) rfl rfl ?_
  refine x_iconst C (v := 0) dX12_howMany_2 (by decide) rfl ?_
  refine x_istore_n C (lv' := [(3, .int 0), (2, .int 0), (0, .ref (a 0)), (1, .int p0)]) dX12_howMany_3 rfl (by decide) rfl rfl ?_
  have loop4 : ∀ (fu4 : Nat) (z4_2 : Int32) (i : Nat), True → 48 - i < fu4 → i ≤ 48 → X E p l e (xRm 0 0 0) s m ([.ref (a 0), .int p0] : List Value).toArray below meth c A 4 0 0 (MQ below (va_Qi (fun r w => w = ws) (xB E A) A) ([.ref (a 0), .int p0] : List Value).toArray s 0 0 A) ws 4 [(0, .ref (a 0)), (1, .int p0), (2, .int z4_2), (3, .int (nI i))] [] := by
    intro fu4
    induction fu4 with
    | zero => intro z4_2 i _ q; omega
    | succ fu4 ih4 =>
      intro z4_2 i _ me4 iv4_0
      refine x_iload_n C dX12_howMany_4 rfl 3 rfl rfl ?_
      refine x_aload_n C dX12_howMany_5 rfl 0 rfl rfl ?_
      obtain ⟨_, k1, n2, n4, n6, v8, v9, v10, n11, n13, n15, n17, v19, v20, v21, v22, n23, n25, v27, bn3, bn5, bn7, bn12, bn14, bn16, bn18, bn24, bn26, zv28, rfl⟩ := hW 0 _ rfl
      refine x_get C (ci := 11) (k := 0) 0 k1 rfl in_X12 (by decide) w_1118 rfl dX12_howMany_6 rfl ?_
      refine x_sipush C (v := 381) dX12_howMany_9 (by decide) rfl ?_
      obtain ⟨_, k29, f30, pf31, rfl⟩ := hW 1 _ rfl
      obtain ⟨n32, hn33, en34⟩ := NB_many pf31
      refine x_ialk C (v := nI n32) 381 (by decide) (by decide) (by decide) 1 k29 en34 dX12_howMany_12 rfl ?_
      refine x_icmp_ge C (tgt := 44) dX12_howMany_13 (by decide) rfl (fun c35 => ?_) (fun c35 => ?_)
      · skip
        have nf36 := nI_le' (a := n32) (b := i) c35 (by omega) (by omega)
        refine x_iload_n C dX12_howMany_44 rfl 2 rfl rfl ?_
        exact x_zret C hr hlk rfl dX12_howMany_45 rfl
      · skip
        have nf37 := nI_nle' (a := n32) (b := i) c35 (by omega) (by omega)
        refine x_iload_n C dX12_howMany_16 rfl 2 rfl rfl ?_
        refine x_aload_n C dX12_howMany_17 rfl 0 rfl rfl ?_
        refine x_get C (ci := 11) (k := 0) 0 k1 rfl in_X12 (by decide) w_1118 rfl dX12_howMany_18 rfl ?_
        refine x_sipush C (v := 240) dX12_howMany_21 (by decide) rfl ?_
        refine x_iload_n C dX12_howMany_24 rfl 3 rfl rfl ?_
        refine x_iadd C (v := (nI (240 + i))) dX12_howMany_25 (nI_add 240 i) rfl ?_
        refine x_iald C (v := (f30 (nI (240 + i)).toNatClampNeg)) 1 k29 (vp_in_nI (by omega) (by decide)) rfl dX12_howMany_26 rfl ?_
        refine x_any (fun v38 => ?_)
        refine x_iload_n C dX12_howMany_27 rfl 1 rfl rfl ?_
        refine x_icmp_ne C (tgt := 35) dX12_howMany_28 (by decide) rfl (fun c39 => ?_) (fun c39 => ?_)
        · skip
          refine x_iconst C (v := 0) dX12_howMany_35 (by decide) rfl ?_
          refine x_iadd C (v := (z4_2 + (0 : Int32))) dX12_howMany_36 rfl rfl ?_
          refine x_any (fun v40 => ?_)
          refine x_istore_n C (lv' := [(2, .int v40), (0, .ref (a 0)), (1, .int p0), (3, .int (nI i))]) dX12_howMany_37 rfl (by decide) rfl rfl ?_
          refine x_iinc C (v := (nI (i + 1))) (lv' := [(3, .int (nI (i + 1))), (2, .int v40), (0, .ref (a 0)), (1, .int p0)]) dX12_howMany_38 3 rfl (nI_add i 1) (by decide) rfl rfl ?_
          refine x_goto C (tgt := 4) dX12_howMany_41 (by decide) ?_
          refine x_lv (lv1 := [(0, .ref (a 0)), (1, .int p0), (2, .int v40), (3, .int (nI (i + 1)))]) [2, 3, 1, 0] rfl ?_
          exact ih4 v40 (i + 1) trivial (by omega) (by omega)
        · skip
          refine x_iconst C (v := 1) dX12_howMany_31 (by decide) rfl ?_
          refine x_goto C (tgt := 36) dX12_howMany_32 (by decide) ?_
          refine x_iadd C (v := (z4_2 + (1 : Int32))) dX12_howMany_36 rfl rfl ?_
          refine x_any (fun v41 => ?_)
          refine x_istore_n C (lv' := [(2, .int v41), (0, .ref (a 0)), (1, .int p0), (3, .int (nI i))]) dX12_howMany_37 rfl (by decide) rfl rfl ?_
          refine x_iinc C (v := (nI (i + 1))) (lv' := [(3, .int (nI (i + 1))), (2, .int v41), (0, .ref (a 0)), (1, .int p0)]) dX12_howMany_38 3 rfl (nI_add i 1) (by decide) rfl rfl ?_
          refine x_goto C (tgt := 4) dX12_howMany_41 (by decide) ?_
          refine x_lv (lv1 := [(0, .ref (a 0)), (1, .int p0), (2, .int v41), (3, .int (nI (i + 1)))]) [2, 3, 1, 0] rfl ?_
          exact ih4 v41 (i + 1) trivial (by omega) (by omega)
  refine x_lv (lv1 := [(0, .ref (a 0)), (1, .int p0), (2, .int 0), (3, .int 0)]) [2, 3, 1, 0] rfl ?_
  exact loop4 _ (0 : Int32) 0 trivial (Nat.lt_succ_self _) (by omega)
theorem dX12_eggsOf_0 : decode cX12_eggsOf 0 = .ok (.iconst 0, 1) := by decide +kernel
theorem dX12_eggsOf_1 : decode cX12_eggsOf 1 = .ok (.istore_n 3, 1) := by decide +kernel
theorem dX12_eggsOf_2 : decode cX12_eggsOf 2 = .ok (.iconst 0, 1) := by decide +kernel
theorem dX12_eggsOf_3 : decode cX12_eggsOf 3 = .ok (.istore 4, 2) := by decide +kernel
theorem dX12_eggsOf_5 : decode cX12_eggsOf 5 = .ok (.iload 4, 2) := by decide +kernel
theorem dX12_eggsOf_7 : decode cX12_eggsOf 7 = .ok (.aload_n 0, 1) := by decide +kernel
theorem dX12_eggsOf_8 : decode cX12_eggsOf 8 = .ok (.getfield 7, 3) := by decide +kernel
theorem dX12_eggsOf_11 : decode cX12_eggsOf 11 = .ok (.sipush 381, 3) := by decide +kernel
theorem dX12_eggsOf_14 : decode cX12_eggsOf 14 = .ok (.iaload, 1) := by decide +kernel
theorem dX12_eggsOf_15 : decode cX12_eggsOf 15 = .ok (.if_icmp .ge 53, 3) := by decide +kernel
theorem dX12_eggsOf_18 : decode cX12_eggsOf 18 = .ok (.aload_n 0, 1) := by decide +kernel
theorem dX12_eggsOf_19 : decode cX12_eggsOf 19 = .ok (.iload 4, 2) := by decide +kernel
theorem dX12_eggsOf_21 : decode cX12_eggsOf 21 = .ok (.invokevirtual 268, 3) := by decide +kernel
theorem dX12_eggsOf_24 : decode cX12_eggsOf 24 = .ok (.ifCond .eq 38, 3) := by decide +kernel
theorem dX12_eggsOf_27 : decode cX12_eggsOf 27 = .ok (.aload_n 0, 1) := by decide +kernel
theorem dX12_eggsOf_28 : decode cX12_eggsOf 28 = .ok (.getfield 7, 3) := by decide +kernel
theorem dX12_eggsOf_31 : decode cX12_eggsOf 31 = .ok (.sipush 144, 3) := by decide +kernel
theorem dX12_eggsOf_34 : decode cX12_eggsOf 34 = .ok (.iload 4, 2) := by decide +kernel
theorem dX12_eggsOf_36 : decode cX12_eggsOf 36 = .ok (.iadd, 1) := by decide +kernel
theorem dX12_eggsOf_37 : decode cX12_eggsOf 37 = .ok (.iaload, 1) := by decide +kernel
theorem dX12_eggsOf_38 : decode cX12_eggsOf 38 = .ok (.iload_n 1, 1) := by decide +kernel
theorem dX12_eggsOf_39 : decode cX12_eggsOf 39 = .ok (.if_icmp .ne 23, 3) := by decide +kernel
theorem dX12_eggsOf_42 : decode cX12_eggsOf 42 = .ok (.iload_n 3, 1) := by decide +kernel
theorem dX12_eggsOf_43 : decode cX12_eggsOf 43 = .ok (.iload_n 2, 1) := by decide +kernel
theorem dX12_eggsOf_44 : decode cX12_eggsOf 44 = .ok (.ifCond .eq 15, 3) := by decide +kernel
theorem dX12_eggsOf_47 : decode cX12_eggsOf 47 = .ok (.aload_n 0, 1) := by decide +kernel
theorem dX12_eggsOf_48 : decode cX12_eggsOf 48 = .ok (.getfield 7, 3) := by decide +kernel
theorem dX12_eggsOf_51 : decode cX12_eggsOf 51 = .ok (.iconst 0, 1) := by decide +kernel
theorem dX12_eggsOf_52 : decode cX12_eggsOf 52 = .ok (.iload 4, 2) := by decide +kernel
theorem dX12_eggsOf_54 : decode cX12_eggsOf 54 = .ok (.iadd, 1) := by decide +kernel
theorem dX12_eggsOf_55 : decode cX12_eggsOf 55 = .ok (.iaload, 1) := by decide +kernel
theorem dX12_eggsOf_56 : decode cX12_eggsOf 56 = .ok (.goto 4, 3) := by decide +kernel
theorem dX12_eggsOf_59 : decode cX12_eggsOf 59 = .ok (.iconst 1, 1) := by decide +kernel
theorem dX12_eggsOf_60 : decode cX12_eggsOf 60 = .ok (.iadd, 1) := by decide +kernel
theorem dX12_eggsOf_61 : decode cX12_eggsOf 61 = .ok (.istore_n 3, 1) := by decide +kernel
theorem dX12_eggsOf_62 : decode cX12_eggsOf 62 = .ok (.iinc 4 1, 3) := by decide +kernel
theorem dX12_eggsOf_65 : decode cX12_eggsOf 65 = .ok (.goto (-60), 3) := by decide +kernel
theorem dX12_eggsOf_68 : decode cX12_eggsOf 68 = .ok (.iload_n 3, 1) := by decide +kernel
theorem dX12_eggsOf_69 : decode cX12_eggsOf 69 = .ok (.ireturn, 1) := by decide +kernel
set_option maxRecDepth 20000 in
set_option maxHeartbeats 4000000 in
theorem m_eggsOf (E : xE) (l : Launch) (a : Nat → Nat) (cd : Cd) (hG : Good cd) (ws : va_W) (hW : WX (okM E a cd) ws) (p0 : Int32) (p1 : Int32) : xI E l yX12_eggsOf cX12_eggsOf 5 (some .int) 2 [.ref (a 0), .int p0, .int p1] ws (fun r w => w = ws) := by
  refine xI_start (lv := [(0, .ref (a 0)), (1, .int p0), (2, .int p1)]) RX12 (by decide) rfl (Nat.le_of_ble_eq_true rfl) rfl (fun p e s m below meth c A C hr hlk => ?_)
  refine x_iconst C (v := 0) dX12_eggsOf_0 (by decide) rfl ?_
  refine x_istore_n C (lv' := [(3, .int 0), (0, .ref (a 0)), (1, .int p0), (2, .int p1)]) dX12_eggsOf_1 rfl (by decide) rfl rfl ?_
  refine x_iconst C (v := 0) dX12_eggsOf_2 (by decide) rfl ?_
  refine x_istore C (lv' := [(4, .int 0), (3, .int 0), (0, .ref (a 0)), (1, .int p0), (2, .int p1)]) dX12_eggsOf_3 (by decide) rfl rfl ?_
  have loop5 : ∀ (fu5 : Nat) (z5_3 : Int32) (i : Nat), True → 48 - i < fu5 → i ≤ 48 → X E p l e (xRm 2 0 0) s m ([.ref (a 0), .int p0, .int p1] : List Value).toArray below meth c A 5 0 0 (MQ below (va_Qi (fun r w => w = ws) (xB E A) A) ([.ref (a 0), .int p0, .int p1] : List Value).toArray s 0 0 A) ws 5 [(0, .ref (a 0)), (1, .int p0), (2, .int p1), (3, .int z5_3), (4, .int (nI i))] [] := by
    intro fu5
    induction fu5 with
    | zero => intro z5_3 i _ q; omega
    | succ fu5 ih5 =>
      intro z5_3 i _ me5 iv5_0
      refine x_iload C dX12_eggsOf_5 4 rfl rfl ?_
      refine x_aload_n C dX12_eggsOf_7 rfl 0 rfl rfl ?_
      obtain ⟨_, k1, n2, n4, n6, v8, v9, v10, n11, n13, n15, n17, v19, v20, v21, v22, n23, n25, v27, bn3, bn5, bn7, bn12, bn14, bn16, bn18, bn24, bn26, zv28, rfl⟩ := hW 0 _ rfl
      refine x_get C (ci := 11) (k := 0) 0 k1 rfl in_X12 (by decide) w_1118 rfl dX12_eggsOf_8 rfl ?_
      refine x_sipush C (v := 381) dX12_eggsOf_11 (by decide) rfl ?_
      obtain ⟨_, k29, f30, pf31, rfl⟩ := hW 1 _ rfl
      obtain ⟨n32, hn33, en34⟩ := NB_many pf31
      refine x_ialk C (v := nI n32) 381 (by decide) (by decide) (by decide) 1 k29 en34 dX12_eggsOf_14 rfl ?_
      refine x_icmp_ge C (tgt := 68) dX12_eggsOf_15 (by decide) rfl (fun c35 => ?_) (fun c35 => ?_)
      · skip
        have nf36 := nI_le' (a := n32) (b := i) c35 (by omega) (by omega)
        refine x_iload_n C dX12_eggsOf_68 rfl 3 rfl rfl ?_
        exact x_zret C hr hlk rfl dX12_eggsOf_69 rfl
      · skip
        have nf37 := nI_nle' (a := n32) (b := i) c35 (by omega) (by omega)
        refine x_aload_n C dX12_eggsOf_18 rfl 0 rfl rfl ?_
        refine x_iload C dX12_eggsOf_19 4 rfl rfl ?_
        refine x_vi C (As := [.int (nI i)]) (rest := []) (m_isWhole E l a cd hG ws hW ((nI i))) mf_X12_isWhole w_1435 0 k1 rfl rfl rfl (Nat.le_of_ble_eq_true rfl) ⟨(Nat.le_of_ble_eq_true rfl), (Nat.le_of_ble_eq_true rfl)⟩ ⟨(Nat.le_of_ble_eq_true rfl), (Nat.le_of_ble_eq_true rfl)⟩ dX12_eggsOf_21 rfl (fun r39 w40 h38 => ?_)
        obtain ⟨hW41, zb42, x43⟩ := h38
        refine x_ws hW41 ?_
        refine x_if_eq C (tgt := 62) dX12_eggsOf_24 (by decide) rfl (fun c44 => ?_) (fun c44 => ?_)
        · skip
          refine x_iinc C (v := (nI (i + 1))) (lv' := [(4, .int (nI (i + 1))), (0, .ref (a 0)), (1, .int p0), (2, .int p1), (3, .int z5_3)]) dX12_eggsOf_62 4 rfl (nI_add i 1) (by decide) rfl rfl ?_
          refine x_goto C (tgt := 5) dX12_eggsOf_65 (by decide) ?_
          refine x_lv (lv1 := [(0, .ref (a 0)), (1, .int p0), (2, .int p1), (3, .int z5_3), (4, .int (nI (i + 1)))]) [1, 2, 3, 4, 0] rfl ?_
          exact ih5 z5_3 (i + 1) trivial (by omega) (by omega)
        · skip
          have wi45 := wth_le (a := 0) (b := 47) (j := i) (x43 c44) (by omega) (by decide) (by decide)
          refine x_aload_n C dX12_eggsOf_27 rfl 0 rfl rfl ?_
          refine x_get C (ci := 11) (k := 0) 0 k1 rfl in_X12 (by decide) w_1118 rfl dX12_eggsOf_28 rfl ?_
          refine x_sipush C (v := 144) dX12_eggsOf_31 (by decide) rfl ?_
          refine x_iload C dX12_eggsOf_34 4 rfl rfl ?_
          refine x_iadd C (v := (nI (144 + i))) dX12_eggsOf_36 (nI_add 144 i) rfl ?_
          obtain ⟨n46, hn47, en48⟩ := NB_own (j := i) pf31 (by omega)
          refine x_ialk C (v := nI n46) (144 + i) (nI_clamp (by omega)) (nI_pos (by omega)) (by omega) 1 k29 en48 dX12_eggsOf_37 rfl ?_
          refine x_iload_n C dX12_eggsOf_38 rfl 1 rfl rfl ?_
          refine x_icmp_ne C (tgt := 62) dX12_eggsOf_39 (by decide) rfl (fun c49 => ?_) (fun c49 => ?_)
          · skip
            refine x_iinc C (v := (nI (i + 1))) (lv' := [(4, .int (nI (i + 1))), (0, .ref (a 0)), (1, .int p0), (2, .int p1), (3, .int z5_3)]) dX12_eggsOf_62 4 rfl (nI_add i 1) (by decide) rfl rfl ?_
            refine x_goto C (tgt := 5) dX12_eggsOf_65 (by decide) ?_
            refine x_lv (lv1 := [(0, .ref (a 0)), (1, .int p0), (2, .int p1), (3, .int z5_3), (4, .int (nI (i + 1)))]) [1, 2, 3, 4, 0] rfl ?_
            exact ih5 z5_3 (i + 1) trivial (by omega) (by omega)
          · skip
            refine x_iload_n C dX12_eggsOf_42 rfl 3 rfl rfl ?_
            refine x_iload_n C dX12_eggsOf_43 rfl 2 rfl rfl ?_
            refine x_if_eq C (tgt := 59) dX12_eggsOf_44 (by decide) rfl (fun c50 => ?_) (fun c50 => ?_)
            · skip
              refine x_iconst C (v := 1) dX12_eggsOf_59 (by decide) rfl ?_
              refine x_iadd C (v := (z5_3 + (1 : Int32))) dX12_eggsOf_60 rfl rfl ?_
              refine x_any (fun v51 => ?_)
              refine x_istore_n C (lv' := [(3, .int v51), (0, .ref (a 0)), (1, .int p0), (2, .int p1), (4, .int (nI i))]) dX12_eggsOf_61 rfl (by decide) rfl rfl ?_
              refine x_iinc C (v := (nI (i + 1))) (lv' := [(4, .int (nI (i + 1))), (3, .int v51), (0, .ref (a 0)), (1, .int p0), (2, .int p1)]) dX12_eggsOf_62 4 rfl (nI_add i 1) (by decide) rfl rfl ?_
              refine x_goto C (tgt := 5) dX12_eggsOf_65 (by decide) ?_
              refine x_lv (lv1 := [(0, .ref (a 0)), (1, .int p0), (2, .int p1), (3, .int v51), (4, .int (nI (i + 1)))]) [2, 3, 4, 1, 0] rfl ?_
              exact ih5 v51 (i + 1) trivial (by omega) (by omega)
            · skip
              refine x_aload_n C dX12_eggsOf_47 rfl 0 rfl rfl ?_
              refine x_get C (ci := 11) (k := 0) 0 k1 rfl in_X12 (by decide) w_1118 rfl dX12_eggsOf_48 rfl ?_
              refine x_iconst C (v := 0) dX12_eggsOf_51 (by decide) rfl ?_
              refine x_iload C dX12_eggsOf_52 4 rfl rfl ?_
              refine x_iadd C (v := (nI (0 + i))) dX12_eggsOf_54 (nI_add 0 i) rfl ?_
              refine x_iald C (v := (f30 (nI (0 + i)).toNatClampNeg)) 1 k29 (vp_in_nI (by omega) (by decide)) rfl dX12_eggsOf_55 rfl ?_
              refine x_any (fun v52 => ?_)
              refine x_goto C (tgt := 60) dX12_eggsOf_56 (by decide) ?_
              refine x_iadd C (v := (z5_3 + v52)) dX12_eggsOf_60 rfl rfl ?_
              refine x_any (fun v53 => ?_)
              refine x_istore_n C (lv' := [(3, .int v53), (0, .ref (a 0)), (1, .int p0), (2, .int p1), (4, .int (nI i))]) dX12_eggsOf_61 rfl (by decide) rfl rfl ?_
              refine x_iinc C (v := (nI (i + 1))) (lv' := [(4, .int (nI (i + 1))), (3, .int v53), (0, .ref (a 0)), (1, .int p0), (2, .int p1)]) dX12_eggsOf_62 4 rfl (nI_add i 1) (by decide) rfl rfl ?_
              refine x_goto C (tgt := 5) dX12_eggsOf_65 (by decide) ?_
              refine x_lv (lv1 := [(0, .ref (a 0)), (1, .int p0), (2, .int p1), (3, .int v53), (4, .int (nI (i + 1)))]) [2, 3, 4, 1, 0] rfl ?_
              exact ih5 v53 (i + 1) trivial (by omega) (by omega)
  refine x_lv (lv1 := [(0, .ref (a 0)), (1, .int p0), (2, .int p1), (3, .int 0), (4, .int 0)]) [2, 3, 4, 1, 0] rfl ?_
  exact loop5 _ (0 : Int32) 0 trivial (Nat.lt_succ_self _) (by omega)
theorem dX12_hensOf_0 : decode cX12_hensOf 0 = .ok (.iconst 0, 1) := by decide +kernel
theorem dX12_hensOf_1 : decode cX12_hensOf 1 = .ok (.istore_n 2, 1) := by decide +kernel
theorem dX12_hensOf_2 : decode cX12_hensOf 2 = .ok (.iconst 0, 1) := by decide +kernel
theorem dX12_hensOf_3 : decode cX12_hensOf 3 = .ok (.istore_n 3, 1) := by decide +kernel
theorem dX12_hensOf_4 : decode cX12_hensOf 4 = .ok (.iload_n 3, 1) := by decide +kernel
theorem dX12_hensOf_5 : decode cX12_hensOf 5 = .ok (.bipush 8, 2) := by decide +kernel
theorem dX12_hensOf_7 : decode cX12_hensOf 7 = .ok (.if_icmp .ge 39, 3) := by decide +kernel
theorem dX12_hensOf_10 : decode cX12_hensOf 10 = .ok (.iload_n 2, 1) := by decide +kernel
theorem dX12_hensOf_11 : decode cX12_hensOf 11 = .ok (.aload_n 0, 1) := by decide +kernel
theorem dX12_hensOf_12 : decode cX12_hensOf 12 = .ok (.iload_n 3, 1) := by decide +kernel
theorem dX12_hensOf_13 : decode cX12_hensOf 13 = .ok (.invokevirtual 116, 3) := by decide +kernel
theorem dX12_hensOf_16 : decode cX12_hensOf 16 = .ok (.ifCond .eq 21, 3) := by decide +kernel
theorem dX12_hensOf_19 : decode cX12_hensOf 19 = .ok (.aload_n 0, 1) := by decide +kernel
theorem dX12_hensOf_20 : decode cX12_hensOf 20 = .ok (.getfield 7, 3) := by decide +kernel
theorem dX12_hensOf_23 : decode cX12_hensOf 23 = .ok (.sipush 329, 3) := by decide +kernel
theorem dX12_hensOf_26 : decode cX12_hensOf 26 = .ok (.iload_n 3, 1) := by decide +kernel
theorem dX12_hensOf_27 : decode cX12_hensOf 27 = .ok (.iadd, 1) := by decide +kernel
theorem dX12_hensOf_28 : decode cX12_hensOf 28 = .ok (.iaload, 1) := by decide +kernel
theorem dX12_hensOf_29 : decode cX12_hensOf 29 = .ok (.iload_n 1, 1) := by decide +kernel
theorem dX12_hensOf_30 : decode cX12_hensOf 30 = .ok (.if_icmp .ne 7, 3) := by decide +kernel
theorem dX12_hensOf_33 : decode cX12_hensOf 33 = .ok (.iconst 1, 1) := by decide +kernel
theorem dX12_hensOf_34 : decode cX12_hensOf 34 = .ok (.goto 4, 3) := by decide +kernel
theorem dX12_hensOf_37 : decode cX12_hensOf 37 = .ok (.iconst 0, 1) := by decide +kernel
theorem dX12_hensOf_38 : decode cX12_hensOf 38 = .ok (.iadd, 1) := by decide +kernel
theorem dX12_hensOf_39 : decode cX12_hensOf 39 = .ok (.istore_n 2, 1) := by decide +kernel
theorem dX12_hensOf_40 : decode cX12_hensOf 40 = .ok (.iinc 3 1, 3) := by decide +kernel
theorem dX12_hensOf_43 : decode cX12_hensOf 43 = .ok (.goto (-39), 3) := by decide +kernel
theorem dX12_hensOf_46 : decode cX12_hensOf 46 = .ok (.iload_n 2, 1) := by decide +kernel
theorem dX12_hensOf_47 : decode cX12_hensOf 47 = .ok (.ireturn, 1) := by decide +kernel
set_option maxRecDepth 20000 in
set_option maxHeartbeats 4000000 in
theorem m_hensOf (E : xE) (l : Launch) (a : Nat → Nat) (cd : Cd) (hG : Good cd) (ws : va_W) (hW : WX (okM E a cd) ws) (p0 : Int32) : xI E l yX12_hensOf cX12_hensOf 4 (some .int) 2 [.ref (a 0), .int p0] ws (fun r w => w = ws) := by
  refine xI_start (lv := [(0, .ref (a 0)), (1, .int p0)]) RX12 (by decide) rfl (Nat.le_of_ble_eq_true rfl) rfl (fun p e s m below meth c A C hr hlk => ?_)
  refine x_iconst C (v := 0) dX12_hensOf_0 (by decide) rfl ?_
  refine x_istore_n C (lv' := [(2, .int 0), (0, .ref (a 0)), (1, .int p0)]) dX12_hensOf_1 rfl (by decide) rfl rfl ?_
  refine x_iconst C (v := 0) dX12_hensOf_2 (by decide) rfl ?_
  refine x_istore_n C (lv' := [(3, .int 0), (2, .int 0), (0, .ref (a 0)), (1, .int p0)]) dX12_hensOf_3 rfl (by decide) rfl rfl ?_
  have loop4 : ∀ (fu4 : Nat) (z4_2 : Int32) (i : Nat), True → 8 - i < fu4 → i ≤ 8 → X E p l e (xRm 2 0 0) s m ([.ref (a 0), .int p0] : List Value).toArray below meth c A 4 0 0 (MQ below (va_Qi (fun r w => w = ws) (xB E A) A) ([.ref (a 0), .int p0] : List Value).toArray s 0 0 A) ws 4 [(0, .ref (a 0)), (1, .int p0), (2, .int z4_2), (3, .int (nI i))] [] := by
    intro fu4
    induction fu4 with
    | zero => intro z4_2 i _ q; omega
    | succ fu4 ih4 =>
      intro z4_2 i _ me4 iv4_0
      refine x_iload_n C dX12_hensOf_4 rfl 3 rfl rfl ?_
      refine x_bipush C (v := 8) dX12_hensOf_5 (by decide) rfl ?_
      refine x_icmp_ge C (tgt := 46) dX12_hensOf_7 (by decide) rfl (fun c1 => ?_) (fun c1 => ?_)
      · skip
        have nf2 := nI_le' (a := 8) (b := i) c1 (by omega) (by omega)
        refine x_iload_n C dX12_hensOf_46 rfl 2 rfl rfl ?_
        exact x_zret C hr hlk rfl dX12_hensOf_47 rfl
      · skip
        have nf3 := nI_nle' (a := 8) (b := i) c1 (by omega) (by omega)
        refine x_iload_n C dX12_hensOf_10 rfl 2 rfl rfl ?_
        refine x_aload_n C dX12_hensOf_11 rfl 0 rfl rfl ?_
        refine x_iload_n C dX12_hensOf_12 rfl 3 rfl rfl ?_
        obtain ⟨_, k4, n5, n7, n9, v11, v12, v13, n14, n16, n18, n20, v22, v23, v24, v25, n26, n28, v30, bn6, bn8, bn10, bn15, bn17, bn19, bn21, bn27, bn29, zv31, rfl⟩ := hW 0 _ rfl
        refine x_vi C (As := [.int (nI i)]) (rest := [.int z4_2]) (m_isHen E l a cd hG ws hW ((nI i))) mf_X12_isHen w_1285 0 k4 rfl rfl rfl (Nat.le_of_ble_eq_true rfl) ⟨(Nat.le_of_ble_eq_true rfl), (Nat.le_of_ble_eq_true rfl)⟩ ⟨(Nat.le_of_ble_eq_true rfl), (Nat.le_of_ble_eq_true rfl)⟩ dX12_hensOf_13 rfl (fun r33 w34 h32 => ?_)
        obtain ⟨hW35, zb36, x37⟩ := h32
        refine x_ws hW35 ?_
        refine x_if_eq C (tgt := 37) dX12_hensOf_16 (by decide) rfl (fun c38 => ?_) (fun c38 => ?_)
        · skip
          refine x_iconst C (v := 0) dX12_hensOf_37 (by decide) rfl ?_
          refine x_iadd C (v := (z4_2 + (0 : Int32))) dX12_hensOf_38 rfl rfl ?_
          refine x_any (fun v39 => ?_)
          refine x_istore_n C (lv' := [(2, .int v39), (0, .ref (a 0)), (1, .int p0), (3, .int (nI i))]) dX12_hensOf_39 rfl (by decide) rfl rfl ?_
          refine x_iinc C (v := (nI (i + 1))) (lv' := [(3, .int (nI (i + 1))), (2, .int v39), (0, .ref (a 0)), (1, .int p0)]) dX12_hensOf_40 3 rfl (nI_add i 1) (by decide) rfl rfl ?_
          refine x_goto C (tgt := 4) dX12_hensOf_43 (by decide) ?_
          refine x_lv (lv1 := [(0, .ref (a 0)), (1, .int p0), (2, .int v39), (3, .int (nI (i + 1)))]) [2, 3, 1, 0] rfl ?_
          exact ih4 v39 (i + 1) trivial (by omega) (by omega)
        · skip
          have wi40 := wth_le (a := 0) (b := 7) (j := i) (x37 c38) (by omega) (by decide) (by decide)
          refine x_aload_n C dX12_hensOf_19 rfl 0 rfl rfl ?_
          refine x_get C (ci := 11) (k := 0) 0 k4 rfl in_X12 (by decide) w_1118 rfl dX12_hensOf_20 rfl ?_
          refine x_sipush C (v := 329) dX12_hensOf_23 (by decide) rfl ?_
          refine x_iload_n C dX12_hensOf_26 rfl 3 rfl rfl ?_
          refine x_iadd C (v := (nI (329 + i))) dX12_hensOf_27 (nI_add 329 i) rfl ?_
          obtain ⟨_, k41, f42, pf43, rfl⟩ := hW 1 _ rfl
          obtain ⟨n44, hn45, en46⟩ := NB_kp (j := i) pf43 (by omega)
          refine x_ialk C (v := nI n44) (329 + i) (nI_clamp (by omega)) (nI_pos (by omega)) (by omega) 1 k41 en46 dX12_hensOf_28 rfl ?_
          refine x_iload_n C dX12_hensOf_29 rfl 1 rfl rfl ?_
          refine x_icmp_ne C (tgt := 37) dX12_hensOf_30 (by decide) rfl (fun c47 => ?_) (fun c47 => ?_)
          · skip
            refine x_iconst C (v := 0) dX12_hensOf_37 (by decide) rfl ?_
            refine x_iadd C (v := (z4_2 + (0 : Int32))) dX12_hensOf_38 rfl rfl ?_
            refine x_any (fun v48 => ?_)
            refine x_istore_n C (lv' := [(2, .int v48), (0, .ref (a 0)), (1, .int p0), (3, .int (nI i))]) dX12_hensOf_39 rfl (by decide) rfl rfl ?_
            refine x_iinc C (v := (nI (i + 1))) (lv' := [(3, .int (nI (i + 1))), (2, .int v48), (0, .ref (a 0)), (1, .int p0)]) dX12_hensOf_40 3 rfl (nI_add i 1) (by decide) rfl rfl ?_
            refine x_goto C (tgt := 4) dX12_hensOf_43 (by decide) ?_
            refine x_lv (lv1 := [(0, .ref (a 0)), (1, .int p0), (2, .int v48), (3, .int (nI (i + 1)))]) [2, 3, 1, 0] rfl ?_
            exact ih4 v48 (i + 1) trivial (by omega) (by omega)
          · skip
            refine x_iconst C (v := 1) dX12_hensOf_33 (by decide) rfl ?_
            refine x_goto C (tgt := 38) dX12_hensOf_34 (by decide) ?_
            refine x_iadd C (v := (z4_2 + (1 : Int32))) dX12_hensOf_38 rfl rfl ?_
            refine x_any (fun v49 => ?_)
            refine x_istore_n C (lv' := [(2, .int v49), (0, .ref (a 0)), (1, .int p0), (3, .int (nI i))]) dX12_hensOf_39 rfl (by decide) rfl rfl ?_
            refine x_iinc C (v := (nI (i + 1))) (lv' := [(3, .int (nI (i + 1))), (2, .int v49), (0, .ref (a 0)), (1, .int p0)]) dX12_hensOf_40 3 rfl (nI_add i 1) (by decide) rfl rfl ?_
            refine x_goto C (tgt := 4) dX12_hensOf_43 (by decide) ?_
            refine x_lv (lv1 := [(0, .ref (a 0)), (1, .int p0), (2, .int v49), (3, .int (nI (i + 1)))]) [2, 3, 1, 0] rfl ?_
            exact ih4 v49 (i + 1) trivial (by omega) (by omega)
  refine x_lv (lv1 := [(0, .ref (a 0)), (1, .int p0), (2, .int 0), (3, .int 0)]) [2, 3, 1, 0] rfl ?_
  exact loop4 _ (0 : Int32) 0 trivial (Nat.lt_succ_self _) (by omega)
theorem dX12_personIs_0 : decode cX12_personIs 0 = .ok (.aload_n 0, 1) := by decide +kernel
theorem dX12_personIs_1 : decode cX12_personIs 1 = .ok (.iload_n 1, 1) := by decide +kernel
theorem dX12_personIs_2 : decode cX12_personIs 2 = .ok (.invokevirtual 113, 3) := by decide +kernel
theorem dX12_personIs_5 : decode cX12_personIs 5 = .ok (.ifCond .ne 5, 3) := by decide +kernel
theorem dX12_personIs_8 : decode cX12_personIs 8 = .ok (.iconst (-1), 1) := by decide +kernel
theorem dX12_personIs_9 : decode cX12_personIs 9 = .ok (.ireturn, 1) := by decide +kernel
theorem dX12_personIs_10 : decode cX12_personIs 10 = .ok (.iload_n 2, 1) := by decide +kernel
theorem dX12_personIs_11 : decode cX12_personIs 11 = .ok (.tableswitch 105 0 6 #[41, 52, 63, 74, 85, 92, 99], 41) := by decide +kernel
theorem dX12_personIs_52 : decode cX12_personIs 52 = .ok (.aload_n 0, 1) := by decide +kernel
theorem dX12_personIs_53 : decode cX12_personIs 53 = .ok (.getfield 7, 3) := by decide +kernel
theorem dX12_personIs_56 : decode cX12_personIs 56 = .ok (.sipush 288, 3) := by decide +kernel
theorem dX12_personIs_59 : decode cX12_personIs 59 = .ok (.iload_n 1, 1) := by decide +kernel
theorem dX12_personIs_60 : decode cX12_personIs 60 = .ok (.iadd, 1) := by decide +kernel
theorem dX12_personIs_61 : decode cX12_personIs 61 = .ok (.iaload, 1) := by decide +kernel
theorem dX12_personIs_62 : decode cX12_personIs 62 = .ok (.ireturn, 1) := by decide +kernel
theorem dX12_personIs_63 : decode cX12_personIs 63 = .ok (.aload_n 0, 1) := by decide +kernel
theorem dX12_personIs_64 : decode cX12_personIs 64 = .ok (.getfield 7, 3) := by decide +kernel
theorem dX12_personIs_67 : decode cX12_personIs 67 = .ok (.sipush 296, 3) := by decide +kernel
theorem dX12_personIs_70 : decode cX12_personIs 70 = .ok (.iload_n 1, 1) := by decide +kernel
theorem dX12_personIs_71 : decode cX12_personIs 71 = .ok (.iadd, 1) := by decide +kernel
theorem dX12_personIs_72 : decode cX12_personIs 72 = .ok (.iaload, 1) := by decide +kernel
theorem dX12_personIs_73 : decode cX12_personIs 73 = .ok (.ireturn, 1) := by decide +kernel
theorem dX12_personIs_74 : decode cX12_personIs 74 = .ok (.aload_n 0, 1) := by decide +kernel
theorem dX12_personIs_75 : decode cX12_personIs 75 = .ok (.getfield 7, 3) := by decide +kernel
theorem dX12_personIs_78 : decode cX12_personIs 78 = .ok (.sipush 304, 3) := by decide +kernel
theorem dX12_personIs_81 : decode cX12_personIs 81 = .ok (.iload_n 1, 1) := by decide +kernel
theorem dX12_personIs_82 : decode cX12_personIs 82 = .ok (.iadd, 1) := by decide +kernel
theorem dX12_personIs_83 : decode cX12_personIs 83 = .ok (.iaload, 1) := by decide +kernel
theorem dX12_personIs_84 : decode cX12_personIs 84 = .ok (.ireturn, 1) := by decide +kernel
theorem dX12_personIs_85 : decode cX12_personIs 85 = .ok (.aload_n 0, 1) := by decide +kernel
theorem dX12_personIs_86 : decode cX12_personIs 86 = .ok (.getfield 7, 3) := by decide +kernel
theorem dX12_personIs_89 : decode cX12_personIs 89 = .ok (.sipush 312, 3) := by decide +kernel
theorem dX12_personIs_92 : decode cX12_personIs 92 = .ok (.iload_n 1, 1) := by decide +kernel
theorem dX12_personIs_93 : decode cX12_personIs 93 = .ok (.iadd, 1) := by decide +kernel
theorem dX12_personIs_94 : decode cX12_personIs 94 = .ok (.iaload, 1) := by decide +kernel
theorem dX12_personIs_95 : decode cX12_personIs 95 = .ok (.ireturn, 1) := by decide +kernel
theorem dX12_personIs_96 : decode cX12_personIs 96 = .ok (.aload_n 0, 1) := by decide +kernel
theorem dX12_personIs_97 : decode cX12_personIs 97 = .ok (.iload_n 1, 1) := by decide +kernel
theorem dX12_personIs_98 : decode cX12_personIs 98 = .ok (.iconst 0, 1) := by decide +kernel
theorem dX12_personIs_99 : decode cX12_personIs 99 = .ok (.invokevirtual 337, 3) := by decide +kernel
theorem dX12_personIs_102 : decode cX12_personIs 102 = .ok (.ireturn, 1) := by decide +kernel
theorem dX12_personIs_103 : decode cX12_personIs 103 = .ok (.aload_n 0, 1) := by decide +kernel
theorem dX12_personIs_104 : decode cX12_personIs 104 = .ok (.iload_n 1, 1) := by decide +kernel
theorem dX12_personIs_105 : decode cX12_personIs 105 = .ok (.iconst 1, 1) := by decide +kernel
theorem dX12_personIs_106 : decode cX12_personIs 106 = .ok (.invokevirtual 337, 3) := by decide +kernel
theorem dX12_personIs_109 : decode cX12_personIs 109 = .ok (.ireturn, 1) := by decide +kernel
theorem dX12_personIs_110 : decode cX12_personIs 110 = .ok (.aload_n 0, 1) := by decide +kernel
theorem dX12_personIs_111 : decode cX12_personIs 111 = .ok (.iload_n 1, 1) := by decide +kernel
theorem dX12_personIs_112 : decode cX12_personIs 112 = .ok (.invokevirtual 341, 3) := by decide +kernel
theorem dX12_personIs_115 : decode cX12_personIs 115 = .ok (.ireturn, 1) := by decide +kernel
theorem dX12_personIs_116 : decode cX12_personIs 116 = .ok (.iconst (-1), 1) := by decide +kernel
theorem dX12_personIs_117 : decode cX12_personIs 117 = .ok (.ireturn, 1) := by decide +kernel
set_option maxRecDepth 20000 in
set_option maxHeartbeats 4000000 in
theorem m_personIs (E : xE) (l : Launch) (a : Nat → Nat) (cd : Cd) (hG : Good cd) (ws : va_W) (hW : WX (okM E a cd) ws) (p0 : Int32) (p1 : Int32) : xI E l yX12_personIs cX12_personIs 3 (some .int) 8 [.ref (a 0), .int p0, .int p1] ws (fun r w => WX (okM E a cd) w) := by
  refine xI_start (lv := [(0, .ref (a 0)), (1, .int p0), (2, .int p1)]) RX12 (by decide) rfl (Nat.le_of_ble_eq_true rfl) rfl (fun p e s m below meth c A C hr hlk => ?_)
  refine x_aload_n C dX12_personIs_0 rfl 0 rfl rfl ?_
  refine x_iload_n C dX12_personIs_1 rfl 1 rfl rfl ?_
  obtain ⟨_, k1, n2, n4, n6, v8, v9, v10, n11, n13, n15, n17, v19, v20, v21, v22, n23, n25, v27, bn3, bn5, bn7, bn12, bn14, bn16, bn18, bn24, bn26, zv28, rfl⟩ := hW 0 _ rfl
  refine x_vi C (As := [.int p0]) (rest := []) (m_isPerson E l a cd hG ws hW p0) mf_X12_isPerson w_1270 0 k1 rfl rfl rfl (Nat.le_of_ble_eq_true rfl) ⟨(Nat.le_of_ble_eq_true rfl), (Nat.le_of_ble_eq_true rfl)⟩ ⟨(Nat.le_of_ble_eq_true rfl), (Nat.le_of_ble_eq_true rfl)⟩ dX12_personIs_2 rfl (fun r30 w31 h29 => ?_)
  obtain ⟨hW32, zb33, x34⟩ := h29
  refine x_ws hW32 ?_
  refine x_if_ne C (tgt := 10) dX12_personIs_5 (by decide) rfl (fun c35 => ?_) (fun c35 => ?_)
  · skip
    obtain ⟨j36, hl37, hh38, ej39⟩ := w_nat (a := 0) (b := 7) (by decide) (by decide) (x34 c35)
    subst ej39
    refine x_iload_n C dX12_personIs_10 rfl 2 rfl rfl ?_
    by_cases s40 : (p1).toInt < 0
    · refine x_tabOut C (tgt := 116) dX12_personIs_11 (Or.inl s40) (by decide) ?_
      refine x_iconst C (v := (-1)) dX12_personIs_116 (by decide) rfl ?_
      exact x_zret C hr hlk rfl dX12_personIs_117 hW
    by_cases s41 : 6 < (p1).toInt
    · refine x_tabOut C (tgt := 116) dX12_personIs_11 (Or.inr s41) (by decide) ?_
      refine x_iconst C (v := (-1)) dX12_personIs_116 (by decide) rfl ?_
      exact x_zret C hr hlk rfl dX12_personIs_117 hW
    by_cases s42 : p1 = 0
    · refine x_tabIn C (tgt := 52) dX12_personIs_11 (by rw [s42]; decide) (by rw [s42]; decide) (by rw [s42]; rfl) (by decide) ?_
      refine x_aload_n C dX12_personIs_52 rfl 0 rfl rfl ?_
      refine x_get C (ci := 11) (k := 0) 0 k1 rfl in_X12 (by decide) w_1118 rfl dX12_personIs_53 rfl ?_
      refine x_sipush C (v := 288) dX12_personIs_56 (by decide) rfl ?_
      refine x_iload_n C dX12_personIs_59 rfl 1 rfl rfl ?_
      refine x_iadd C (v := (nI (288 + j36))) dX12_personIs_60 (nI_add 288 j36) rfl ?_
      obtain ⟨_, k43, f44, pf45, rfl⟩ := hW 1 _ rfl
      refine x_iald C (v := (f44 (nI (288 + j36)).toNatClampNeg)) 1 k43 (vp_in_nI (by omega) (by decide)) rfl dX12_personIs_61 rfl ?_
      refine x_any (fun v46 => ?_)
      exact x_zret C hr hlk rfl dX12_personIs_62 hW
    have zs42 := sw_ne (by decide : (0 : Int32).toInt = 0) s42
    by_cases s47 : p1 = 1
    · refine x_tabIn C (tgt := 63) dX12_personIs_11 (by rw [s47]; decide) (by rw [s47]; decide) (by rw [s47]; rfl) (by decide) ?_
      refine x_aload_n C dX12_personIs_63 rfl 0 rfl rfl ?_
      refine x_get C (ci := 11) (k := 0) 0 k1 rfl in_X12 (by decide) w_1118 rfl dX12_personIs_64 rfl ?_
      refine x_sipush C (v := 296) dX12_personIs_67 (by decide) rfl ?_
      refine x_iload_n C dX12_personIs_70 rfl 1 rfl rfl ?_
      refine x_iadd C (v := (nI (296 + j36))) dX12_personIs_71 (nI_add 296 j36) rfl ?_
      obtain ⟨_, k48, f49, pf50, rfl⟩ := hW 1 _ rfl
      refine x_iald C (v := (f49 (nI (296 + j36)).toNatClampNeg)) 1 k48 (vp_in_nI (by omega) (by decide)) rfl dX12_personIs_72 rfl ?_
      refine x_any (fun v51 => ?_)
      exact x_zret C hr hlk rfl dX12_personIs_73 hW
    have zs47 := sw_ne (by decide : (1 : Int32).toInt = 1) s47
    by_cases s52 : p1 = 2
    · refine x_tabIn C (tgt := 74) dX12_personIs_11 (by rw [s52]; decide) (by rw [s52]; decide) (by rw [s52]; rfl) (by decide) ?_
      refine x_aload_n C dX12_personIs_74 rfl 0 rfl rfl ?_
      refine x_get C (ci := 11) (k := 0) 0 k1 rfl in_X12 (by decide) w_1118 rfl dX12_personIs_75 rfl ?_
      refine x_sipush C (v := 304) dX12_personIs_78 (by decide) rfl ?_
      refine x_iload_n C dX12_personIs_81 rfl 1 rfl rfl ?_
      refine x_iadd C (v := (nI (304 + j36))) dX12_personIs_82 (nI_add 304 j36) rfl ?_
      obtain ⟨_, k53, f54, pf55, rfl⟩ := hW 1 _ rfl
      refine x_iald C (v := (f54 (nI (304 + j36)).toNatClampNeg)) 1 k53 (vp_in_nI (by omega) (by decide)) rfl dX12_personIs_83 rfl ?_
      refine x_any (fun v56 => ?_)
      exact x_zret C hr hlk rfl dX12_personIs_84 hW
    have zs52 := sw_ne (by decide : (2 : Int32).toInt = 2) s52
    by_cases s57 : p1 = 3
    · refine x_tabIn C (tgt := 85) dX12_personIs_11 (by rw [s57]; decide) (by rw [s57]; decide) (by rw [s57]; rfl) (by decide) ?_
      refine x_aload_n C dX12_personIs_85 rfl 0 rfl rfl ?_
      refine x_get C (ci := 11) (k := 0) 0 k1 rfl in_X12 (by decide) w_1118 rfl dX12_personIs_86 rfl ?_
      refine x_sipush C (v := 312) dX12_personIs_89 (by decide) rfl ?_
      refine x_iload_n C dX12_personIs_92 rfl 1 rfl rfl ?_
      refine x_iadd C (v := (nI (312 + j36))) dX12_personIs_93 (nI_add 312 j36) rfl ?_
      obtain ⟨_, k58, f59, pf60, rfl⟩ := hW 1 _ rfl
      refine x_iald C (v := (f59 (nI (312 + j36)).toNatClampNeg)) 1 k58 (vp_in_nI (by omega) (by decide)) rfl dX12_personIs_94 rfl ?_
      refine x_any (fun v61 => ?_)
      exact x_zret C hr hlk rfl dX12_personIs_95 hW
    have zs57 := sw_ne (by decide : (3 : Int32).toInt = 3) s57
    by_cases s62 : p1 = 4
    · refine x_tabIn C (tgt := 96) dX12_personIs_11 (by rw [s62]; decide) (by rw [s62]; decide) (by rw [s62]; rfl) (by decide) ?_
      refine x_aload_n C dX12_personIs_96 rfl 0 rfl rfl ?_
      refine x_iload_n C dX12_personIs_97 rfl 1 rfl rfl ?_
      refine x_iconst C (v := 0) dX12_personIs_98 (by decide) rfl ?_
      refine x_vi C (As := [.int (nI j36), .int 0]) (rest := []) (m_eggsOf E l a cd hG ws hW ((nI j36)) (0 : Int32)) mf_X12_eggsOf w_1543 0 k1 rfl rfl rfl (Nat.le_of_ble_eq_true rfl) ⟨(Nat.le_of_ble_eq_true rfl), (Nat.le_of_ble_eq_true rfl)⟩ ⟨(Nat.le_of_ble_eq_true rfl), (Nat.le_of_ble_eq_true rfl)⟩ dX12_personIs_99 rfl (fun r64 w65 h63 => ?_)
      have hW66 := h63
      refine x_ws hW66 ?_
      exact x_zret C hr hlk rfl dX12_personIs_102 hW
    have zs62 := sw_ne (by decide : (4 : Int32).toInt = 4) s62
    by_cases s67 : p1 = 5
    · refine x_tabIn C (tgt := 103) dX12_personIs_11 (by rw [s67]; decide) (by rw [s67]; decide) (by rw [s67]; rfl) (by decide) ?_
      refine x_aload_n C dX12_personIs_103 rfl 0 rfl rfl ?_
      refine x_iload_n C dX12_personIs_104 rfl 1 rfl rfl ?_
      refine x_iconst C (v := 1) dX12_personIs_105 (by decide) rfl ?_
      refine x_vi C (As := [.int (nI j36), .int 1]) (rest := []) (m_eggsOf E l a cd hG ws hW ((nI j36)) (1 : Int32)) mf_X12_eggsOf w_1543 0 k1 rfl rfl rfl (Nat.le_of_ble_eq_true rfl) ⟨(Nat.le_of_ble_eq_true rfl), (Nat.le_of_ble_eq_true rfl)⟩ ⟨(Nat.le_of_ble_eq_true rfl), (Nat.le_of_ble_eq_true rfl)⟩ dX12_personIs_106 rfl (fun r69 w70 h68 => ?_)
      have hW71 := h68
      refine x_ws hW71 ?_
      exact x_zret C hr hlk rfl dX12_personIs_109 hW
    have zs67 := sw_ne (by decide : (5 : Int32).toInt = 5) s67
    have s72 : p1 = 6 := sw_last (n := 6) (by decide) s40 s41 (by omega)
    refine x_tabIn C (tgt := 110) dX12_personIs_11 (by rw [s72]; decide) (by rw [s72]; decide) (by rw [s72]; rfl) (by decide) ?_
    refine x_aload_n C dX12_personIs_110 rfl 0 rfl rfl ?_
    refine x_iload_n C dX12_personIs_111 rfl 1 rfl rfl ?_
    refine x_vi C (As := [.int (nI j36)]) (rest := []) (m_hensOf E l a cd hG ws hW ((nI j36))) mf_X12_hensOf w_1547 0 k1 rfl rfl rfl (Nat.le_of_ble_eq_true rfl) ⟨(Nat.le_of_ble_eq_true rfl), (Nat.le_of_ble_eq_true rfl)⟩ ⟨(Nat.le_of_ble_eq_true rfl), (Nat.le_of_ble_eq_true rfl)⟩ dX12_personIs_112 rfl (fun r74 w75 h73 => ?_)
    have hW76 := h73
    refine x_ws hW76 ?_
    exact x_zret C hr hlk rfl dX12_personIs_115 hW
  · skip
    refine x_iconst C (v := (-1)) dX12_personIs_8 (by decide) rfl ?_
    exact x_zret C hr hlk rfl dX12_personIs_9 hW
theorem dX12_workIs_0 : decode cX12_workIs 0 = .ok (.aload_n 0, 1) := by decide +kernel
theorem dX12_workIs_1 : decode cX12_workIs 1 = .ok (.iload_n 1, 1) := by decide +kernel
theorem dX12_workIs_2 : decode cX12_workIs 2 = .ok (.invokevirtual 262, 3) := by decide +kernel
theorem dX12_workIs_5 : decode cX12_workIs 5 = .ok (.ifCond .ne 5, 3) := by decide +kernel
theorem dX12_workIs_8 : decode cX12_workIs 8 = .ok (.iconst (-1), 1) := by decide +kernel
theorem dX12_workIs_9 : decode cX12_workIs 9 = .ok (.ireturn, 1) := by decide +kernel
theorem dX12_workIs_10 : decode cX12_workIs 10 = .ok (.iload_n 2, 1) := by decide +kernel
theorem dX12_workIs_11 : decode cX12_workIs 11 = .ok (.tableswitch 143 0 5 #[37, 48, 59, 70, 81, 95], 37) := by decide +kernel
theorem dX12_workIs_48 : decode cX12_workIs 48 = .ok (.aload_n 0, 1) := by decide +kernel
theorem dX12_workIs_49 : decode cX12_workIs 49 = .ok (.getfield 7, 3) := by decide +kernel
theorem dX12_workIs_52 : decode cX12_workIs 52 = .ok (.sipush 338, 3) := by decide +kernel
theorem dX12_workIs_55 : decode cX12_workIs 55 = .ok (.iload_n 1, 1) := by decide +kernel
theorem dX12_workIs_56 : decode cX12_workIs 56 = .ok (.iadd, 1) := by decide +kernel
theorem dX12_workIs_57 : decode cX12_workIs 57 = .ok (.iaload, 1) := by decide +kernel
theorem dX12_workIs_58 : decode cX12_workIs 58 = .ok (.ireturn, 1) := by decide +kernel
theorem dX12_workIs_59 : decode cX12_workIs 59 = .ok (.aload_n 0, 1) := by decide +kernel
theorem dX12_workIs_60 : decode cX12_workIs 60 = .ok (.getfield 7, 3) := by decide +kernel
theorem dX12_workIs_63 : decode cX12_workIs 63 = .ok (.sipush 346, 3) := by decide +kernel
theorem dX12_workIs_66 : decode cX12_workIs 66 = .ok (.iload_n 1, 1) := by decide +kernel
theorem dX12_workIs_67 : decode cX12_workIs 67 = .ok (.iadd, 1) := by decide +kernel
theorem dX12_workIs_68 : decode cX12_workIs 68 = .ok (.iaload, 1) := by decide +kernel
theorem dX12_workIs_69 : decode cX12_workIs 69 = .ok (.ireturn, 1) := by decide +kernel
theorem dX12_workIs_70 : decode cX12_workIs 70 = .ok (.aload_n 0, 1) := by decide +kernel
theorem dX12_workIs_71 : decode cX12_workIs 71 = .ok (.getfield 7, 3) := by decide +kernel
theorem dX12_workIs_74 : decode cX12_workIs 74 = .ok (.sipush 354, 3) := by decide +kernel
theorem dX12_workIs_77 : decode cX12_workIs 77 = .ok (.iload_n 1, 1) := by decide +kernel
theorem dX12_workIs_78 : decode cX12_workIs 78 = .ok (.iadd, 1) := by decide +kernel
theorem dX12_workIs_79 : decode cX12_workIs 79 = .ok (.iaload, 1) := by decide +kernel
theorem dX12_workIs_80 : decode cX12_workIs 80 = .ok (.ireturn, 1) := by decide +kernel
theorem dX12_workIs_81 : decode cX12_workIs 81 = .ok (.aload_n 0, 1) := by decide +kernel
theorem dX12_workIs_82 : decode cX12_workIs 82 = .ok (.getfield 7, 3) := by decide +kernel
theorem dX12_workIs_85 : decode cX12_workIs 85 = .ok (.sipush 362, 3) := by decide +kernel
theorem dX12_workIs_88 : decode cX12_workIs 88 = .ok (.iload_n 1, 1) := by decide +kernel
theorem dX12_workIs_89 : decode cX12_workIs 89 = .ok (.iadd, 1) := by decide +kernel
theorem dX12_workIs_90 : decode cX12_workIs 90 = .ok (.iaload, 1) := by decide +kernel
theorem dX12_workIs_91 : decode cX12_workIs 91 = .ok (.ireturn, 1) := by decide +kernel
theorem dX12_workIs_92 : decode cX12_workIs 92 = .ok (.aload_n 0, 1) := by decide +kernel
theorem dX12_workIs_93 : decode cX12_workIs 93 = .ok (.iload_n 1, 1) := by decide +kernel
theorem dX12_workIs_94 : decode cX12_workIs 94 = .ok (.invokevirtual 265, 3) := by decide +kernel
theorem dX12_workIs_97 : decode cX12_workIs 97 = .ok (.ifCond .eq 7, 3) := by decide +kernel
theorem dX12_workIs_100 : decode cX12_workIs 100 = .ok (.iconst 1, 1) := by decide +kernel
theorem dX12_workIs_101 : decode cX12_workIs 101 = .ok (.goto 4, 3) := by decide +kernel
theorem dX12_workIs_104 : decode cX12_workIs 104 = .ok (.iconst 0, 1) := by decide +kernel
theorem dX12_workIs_105 : decode cX12_workIs 105 = .ok (.ireturn, 1) := by decide +kernel
theorem dX12_workIs_106 : decode cX12_workIs 106 = .ok (.aload_n 0, 1) := by decide +kernel
theorem dX12_workIs_107 : decode cX12_workIs 107 = .ok (.iload_n 1, 1) := by decide +kernel
theorem dX12_workIs_108 : decode cX12_workIs 108 = .ok (.invokevirtual 265, 3) := by decide +kernel
theorem dX12_workIs_111 : decode cX12_workIs 111 = .ok (.ifCond .eq 16, 3) := by decide +kernel
theorem dX12_workIs_114 : decode cX12_workIs 114 = .ok (.aload_n 0, 1) := by decide +kernel
theorem dX12_workIs_115 : decode cX12_workIs 115 = .ok (.getfield 7, 3) := by decide +kernel
theorem dX12_workIs_118 : decode cX12_workIs 118 = .ok (.sipush 370, 3) := by decide +kernel
theorem dX12_workIs_121 : decode cX12_workIs 121 = .ok (.iload_n 1, 1) := by decide +kernel
theorem dX12_workIs_122 : decode cX12_workIs 122 = .ok (.iadd, 1) := by decide +kernel
theorem dX12_workIs_123 : decode cX12_workIs 123 = .ok (.iaload, 1) := by decide +kernel
theorem dX12_workIs_124 : decode cX12_workIs 124 = .ok (.goto 11, 3) := by decide +kernel
theorem dX12_workIs_127 : decode cX12_workIs 127 = .ok (.aload_n 0, 1) := by decide +kernel
theorem dX12_workIs_128 : decode cX12_workIs 128 = .ok (.getfield 7, 3) := by decide +kernel
theorem dX12_workIs_131 : decode cX12_workIs 131 = .ok (.sipush 379, 3) := by decide +kernel
theorem dX12_workIs_134 : decode cX12_workIs 134 = .ok (.iaload, 1) := by decide +kernel
theorem dX12_workIs_135 : decode cX12_workIs 135 = .ok (.aload_n 0, 1) := by decide +kernel
theorem dX12_workIs_136 : decode cX12_workIs 136 = .ok (.getfield 7, 3) := by decide +kernel
theorem dX12_workIs_139 : decode cX12_workIs 139 = .ok (.sipush 362, 3) := by decide +kernel
theorem dX12_workIs_142 : decode cX12_workIs 142 = .ok (.iload_n 1, 1) := by decide +kernel
theorem dX12_workIs_143 : decode cX12_workIs 143 = .ok (.iadd, 1) := by decide +kernel
theorem dX12_workIs_144 : decode cX12_workIs 144 = .ok (.iaload, 1) := by decide +kernel
theorem dX12_workIs_145 : decode cX12_workIs 145 = .ok (.if_icmp .gt 7, 3) := by decide +kernel
theorem dX12_workIs_148 : decode cX12_workIs 148 = .ok (.iconst 1, 1) := by decide +kernel
theorem dX12_workIs_149 : decode cX12_workIs 149 = .ok (.goto 4, 3) := by decide +kernel
theorem dX12_workIs_152 : decode cX12_workIs 152 = .ok (.iconst 0, 1) := by decide +kernel
theorem dX12_workIs_153 : decode cX12_workIs 153 = .ok (.ireturn, 1) := by decide +kernel
theorem dX12_workIs_154 : decode cX12_workIs 154 = .ok (.iconst (-1), 1) := by decide +kernel
theorem dX12_workIs_155 : decode cX12_workIs 155 = .ok (.ireturn, 1) := by decide +kernel
set_option maxRecDepth 20000 in
set_option maxHeartbeats 4000000 in
theorem m_workIs (E : xE) (l : Launch) (a : Nat → Nat) (cd : Cd) (hG : Good cd) (ws : va_W) (hW : WX (okM E a cd) ws) (p0 : Int32) (p1 : Int32) : xI E l yX12_workIs cX12_workIs 3 (some .int) 8 [.ref (a 0), .int p0, .int p1] ws (fun r w => WX (okM E a cd) w) := by
  refine xI_start (lv := [(0, .ref (a 0)), (1, .int p0), (2, .int p1)]) RX12 (by decide) rfl (Nat.le_of_ble_eq_true rfl) rfl (fun p e s m below meth c A C hr hlk => ?_)
  refine x_aload_n C dX12_workIs_0 rfl 0 rfl rfl ?_
  refine x_iload_n C dX12_workIs_1 rfl 1 rfl rfl ?_
  obtain ⟨_, k1, n2, n4, n6, v8, v9, v10, n11, n13, n15, n17, v19, v20, v21, v22, n23, n25, v27, bn3, bn5, bn7, bn12, bn14, bn16, bn18, bn24, bn26, zv28, rfl⟩ := hW 0 _ rfl
  refine x_vi C (As := [.int p0]) (rest := []) (m_isWork E l a cd hG ws hW p0) mf_X12_isWork w_1427 0 k1 rfl rfl rfl (Nat.le_of_ble_eq_true rfl) ⟨(Nat.le_of_ble_eq_true rfl), (Nat.le_of_ble_eq_true rfl)⟩ ⟨(Nat.le_of_ble_eq_true rfl), (Nat.le_of_ble_eq_true rfl)⟩ dX12_workIs_2 rfl (fun r30 w31 h29 => ?_)
  obtain ⟨hW32, zb33, x34⟩ := h29
  refine x_ws hW32 ?_
  refine x_if_ne C (tgt := 10) dX12_workIs_5 (by decide) rfl (fun c35 => ?_) (fun c35 => ?_)
  · skip
    obtain ⟨j36, hl37, hh38, ej39⟩ := w_nat (a := 0) (b := 7) (by decide) (by decide) (x34 c35)
    subst ej39
    refine x_iload_n C dX12_workIs_10 rfl 2 rfl rfl ?_
    by_cases s40 : (p1).toInt < 0
    · refine x_tabOut C (tgt := 154) dX12_workIs_11 (Or.inl s40) (by decide) ?_
      refine x_iconst C (v := (-1)) dX12_workIs_154 (by decide) rfl ?_
      exact x_zret C hr hlk rfl dX12_workIs_155 hW
    by_cases s41 : 5 < (p1).toInt
    · refine x_tabOut C (tgt := 154) dX12_workIs_11 (Or.inr s41) (by decide) ?_
      refine x_iconst C (v := (-1)) dX12_workIs_154 (by decide) rfl ?_
      exact x_zret C hr hlk rfl dX12_workIs_155 hW
    by_cases s42 : p1 = 0
    · refine x_tabIn C (tgt := 48) dX12_workIs_11 (by rw [s42]; decide) (by rw [s42]; decide) (by rw [s42]; rfl) (by decide) ?_
      refine x_aload_n C dX12_workIs_48 rfl 0 rfl rfl ?_
      refine x_get C (ci := 11) (k := 0) 0 k1 rfl in_X12 (by decide) w_1118 rfl dX12_workIs_49 rfl ?_
      refine x_sipush C (v := 338) dX12_workIs_52 (by decide) rfl ?_
      refine x_iload_n C dX12_workIs_55 rfl 1 rfl rfl ?_
      refine x_iadd C (v := (nI (338 + j36))) dX12_workIs_56 (nI_add 338 j36) rfl ?_
      obtain ⟨_, k43, f44, pf45, rfl⟩ := hW 1 _ rfl
      refine x_iald C (v := (f44 (nI (338 + j36)).toNatClampNeg)) 1 k43 (vp_in_nI (by omega) (by decide)) rfl dX12_workIs_57 rfl ?_
      refine x_any (fun v46 => ?_)
      exact x_zret C hr hlk rfl dX12_workIs_58 hW
    have zs42 := sw_ne (by decide : (0 : Int32).toInt = 0) s42
    by_cases s47 : p1 = 1
    · refine x_tabIn C (tgt := 59) dX12_workIs_11 (by rw [s47]; decide) (by rw [s47]; decide) (by rw [s47]; rfl) (by decide) ?_
      refine x_aload_n C dX12_workIs_59 rfl 0 rfl rfl ?_
      refine x_get C (ci := 11) (k := 0) 0 k1 rfl in_X12 (by decide) w_1118 rfl dX12_workIs_60 rfl ?_
      refine x_sipush C (v := 346) dX12_workIs_63 (by decide) rfl ?_
      refine x_iload_n C dX12_workIs_66 rfl 1 rfl rfl ?_
      refine x_iadd C (v := (nI (346 + j36))) dX12_workIs_67 (nI_add 346 j36) rfl ?_
      obtain ⟨_, k48, f49, pf50, rfl⟩ := hW 1 _ rfl
      refine x_iald C (v := (f49 (nI (346 + j36)).toNatClampNeg)) 1 k48 (vp_in_nI (by omega) (by decide)) rfl dX12_workIs_68 rfl ?_
      refine x_any (fun v51 => ?_)
      exact x_zret C hr hlk rfl dX12_workIs_69 hW
    have zs47 := sw_ne (by decide : (1 : Int32).toInt = 1) s47
    by_cases s52 : p1 = 2
    · refine x_tabIn C (tgt := 70) dX12_workIs_11 (by rw [s52]; decide) (by rw [s52]; decide) (by rw [s52]; rfl) (by decide) ?_
      refine x_aload_n C dX12_workIs_70 rfl 0 rfl rfl ?_
      refine x_get C (ci := 11) (k := 0) 0 k1 rfl in_X12 (by decide) w_1118 rfl dX12_workIs_71 rfl ?_
      refine x_sipush C (v := 354) dX12_workIs_74 (by decide) rfl ?_
      refine x_iload_n C dX12_workIs_77 rfl 1 rfl rfl ?_
      refine x_iadd C (v := (nI (354 + j36))) dX12_workIs_78 (nI_add 354 j36) rfl ?_
      obtain ⟨_, k53, f54, pf55, rfl⟩ := hW 1 _ rfl
      refine x_iald C (v := (f54 (nI (354 + j36)).toNatClampNeg)) 1 k53 (vp_in_nI (by omega) (by decide)) rfl dX12_workIs_79 rfl ?_
      refine x_any (fun v56 => ?_)
      exact x_zret C hr hlk rfl dX12_workIs_80 hW
    have zs52 := sw_ne (by decide : (2 : Int32).toInt = 2) s52
    by_cases s57 : p1 = 3
    · refine x_tabIn C (tgt := 81) dX12_workIs_11 (by rw [s57]; decide) (by rw [s57]; decide) (by rw [s57]; rfl) (by decide) ?_
      refine x_aload_n C dX12_workIs_81 rfl 0 rfl rfl ?_
      refine x_get C (ci := 11) (k := 0) 0 k1 rfl in_X12 (by decide) w_1118 rfl dX12_workIs_82 rfl ?_
      refine x_sipush C (v := 362) dX12_workIs_85 (by decide) rfl ?_
      refine x_iload_n C dX12_workIs_88 rfl 1 rfl rfl ?_
      refine x_iadd C (v := (nI (362 + j36))) dX12_workIs_89 (nI_add 362 j36) rfl ?_
      obtain ⟨_, k58, f59, pf60, rfl⟩ := hW 1 _ rfl
      refine x_iald C (v := (f59 (nI (362 + j36)).toNatClampNeg)) 1 k58 (vp_in_nI (by omega) (by decide)) rfl dX12_workIs_90 rfl ?_
      refine x_any (fun v61 => ?_)
      exact x_zret C hr hlk rfl dX12_workIs_91 hW
    have zs57 := sw_ne (by decide : (3 : Int32).toInt = 3) s57
    by_cases s62 : p1 = 4
    · refine x_tabIn C (tgt := 92) dX12_workIs_11 (by rw [s62]; decide) (by rw [s62]; decide) (by rw [s62]; rfl) (by decide) ?_
      refine x_aload_n C dX12_workIs_92 rfl 0 rfl rfl ?_
      refine x_iload_n C dX12_workIs_93 rfl 1 rfl rfl ?_
      refine x_vi C (As := [.int (nI j36)]) (rest := []) (m_isDone E l a cd hG ws hW j36 (by omega)) mf_X12_isDone w_1431 0 k1 rfl rfl rfl (Nat.le_of_ble_eq_true rfl) ⟨(Nat.le_of_ble_eq_true rfl), (Nat.le_of_ble_eq_true rfl)⟩ ⟨(Nat.le_of_ble_eq_true rfl), (Nat.le_of_ble_eq_true rfl)⟩ dX12_workIs_94 rfl (fun r64 w65 h63 => ?_)
      obtain ⟨hW66, zb67⟩ := h63
      refine x_ws hW66 ?_
      refine x_if_eq C (tgt := 104) dX12_workIs_97 (by decide) rfl (fun c68 => ?_) (fun c68 => ?_)
      · skip
        refine x_iconst C (v := 0) dX12_workIs_104 (by decide) rfl ?_
        exact x_zret C hr hlk rfl dX12_workIs_105 hW
      · skip
        refine x_iconst C (v := 1) dX12_workIs_100 (by decide) rfl ?_
        refine x_goto C (tgt := 105) dX12_workIs_101 (by decide) ?_
        exact x_zret C hr hlk rfl dX12_workIs_105 hW
    have zs62 := sw_ne (by decide : (4 : Int32).toInt = 4) s62
    have s69 : p1 = 5 := sw_last (n := 5) (by decide) s40 s41 (by omega)
    refine x_tabIn C (tgt := 106) dX12_workIs_11 (by rw [s69]; decide) (by rw [s69]; decide) (by rw [s69]; rfl) (by decide) ?_
    refine x_aload_n C dX12_workIs_106 rfl 0 rfl rfl ?_
    refine x_iload_n C dX12_workIs_107 rfl 1 rfl rfl ?_
    refine x_vi C (As := [.int (nI j36)]) (rest := []) (m_isDone E l a cd hG ws hW j36 (by omega)) mf_X12_isDone w_1431 0 k1 rfl rfl rfl (Nat.le_of_ble_eq_true rfl) ⟨(Nat.le_of_ble_eq_true rfl), (Nat.le_of_ble_eq_true rfl)⟩ ⟨(Nat.le_of_ble_eq_true rfl), (Nat.le_of_ble_eq_true rfl)⟩ dX12_workIs_108 rfl (fun r71 w72 h70 => ?_)
    obtain ⟨hW73, zb74⟩ := h70
    refine x_ws hW73 ?_
    refine x_if_eq C (tgt := 127) dX12_workIs_111 (by decide) rfl (fun c75 => ?_) (fun c75 => ?_)
    · skip
      refine x_aload_n C dX12_workIs_127 rfl 0 rfl rfl ?_
      refine x_get C (ci := 11) (k := 0) 0 k1 rfl in_X12 (by decide) w_1118 rfl dX12_workIs_128 rfl ?_
      refine x_sipush C (v := 379) dX12_workIs_131 (by decide) rfl ?_
      obtain ⟨_, k76, f77, pf78, rfl⟩ := hW 1 _ rfl
      obtain ⟨n79, hn80, en81⟩ := NB_day pf78
      refine x_ialk C (v := nI n79) 379 (by decide) (by decide) (by decide) 1 k76 en81 dX12_workIs_134 rfl ?_
      refine x_aload_n C dX12_workIs_135 rfl 0 rfl rfl ?_
      refine x_get C (ci := 11) (k := 0) 0 k1 rfl in_X12 (by decide) w_1118 rfl dX12_workIs_136 rfl ?_
      refine x_sipush C (v := 362) dX12_workIs_139 (by decide) rfl ?_
      refine x_iload_n C dX12_workIs_142 rfl 1 rfl rfl ?_
      refine x_iadd C (v := (nI (362 + j36))) dX12_workIs_143 (nI_add 362 j36) rfl ?_
      refine x_iald C (v := (f77 (nI (362 + j36)).toNatClampNeg)) 1 k76 (vp_in_nI (by omega) (by decide)) rfl dX12_workIs_144 rfl ?_
      refine x_any (fun v82 => ?_)
      refine x_icmp_gt C (tgt := 152) dX12_workIs_145 (by decide) rfl (fun c83 => ?_) (fun c83 => ?_)
      · skip
        refine x_iconst C (v := 0) dX12_workIs_152 (by decide) rfl ?_
        exact x_zret C hr hlk rfl dX12_workIs_153 hW
      · skip
        refine x_iconst C (v := 1) dX12_workIs_148 (by decide) rfl ?_
        refine x_goto C (tgt := 153) dX12_workIs_149 (by decide) ?_
        exact x_zret C hr hlk rfl dX12_workIs_153 hW
    · skip
      refine x_aload_n C dX12_workIs_114 rfl 0 rfl rfl ?_
      refine x_get C (ci := 11) (k := 0) 0 k1 rfl in_X12 (by decide) w_1118 rfl dX12_workIs_115 rfl ?_
      refine x_sipush C (v := 370) dX12_workIs_118 (by decide) rfl ?_
      refine x_iload_n C dX12_workIs_121 rfl 1 rfl rfl ?_
      refine x_iadd C (v := (nI (370 + j36))) dX12_workIs_122 (nI_add 370 j36) rfl ?_
      obtain ⟨_, k84, f85, pf86, rfl⟩ := hW 1 _ rfl
      refine x_iald C (v := (f85 (nI (370 + j36)).toNatClampNeg)) 1 k84 (vp_in_nI (by omega) (by decide)) rfl dX12_workIs_123 rfl ?_
      refine x_any (fun v87 => ?_)
      refine x_goto C (tgt := 135) dX12_workIs_124 (by decide) ?_
      refine x_aload_n C dX12_workIs_135 rfl 0 rfl rfl ?_
      refine x_get C (ci := 11) (k := 0) 0 k1 rfl in_X12 (by decide) w_1118 rfl dX12_workIs_136 rfl ?_
      refine x_sipush C (v := 362) dX12_workIs_139 (by decide) rfl ?_
      refine x_iload_n C dX12_workIs_142 rfl 1 rfl rfl ?_
      refine x_iadd C (v := (nI (362 + j36))) dX12_workIs_143 (nI_add 362 j36) rfl ?_
      refine x_iald C (v := (f85 (nI (362 + j36)).toNatClampNeg)) 1 k84 (vp_in_nI (by omega) (by decide)) rfl dX12_workIs_144 rfl ?_
      refine x_any (fun v88 => ?_)
      refine x_icmp_gt C (tgt := 152) dX12_workIs_145 (by decide) rfl (fun c89 => ?_) (fun c89 => ?_)
      · skip
        refine x_iconst C (v := 0) dX12_workIs_152 (by decide) rfl ?_
        exact x_zret C hr hlk rfl dX12_workIs_153 hW
      · skip
        refine x_iconst C (v := 1) dX12_workIs_148 (by decide) rfl ?_
        refine x_goto C (tgt := 153) dX12_workIs_149 (by decide) ?_
        exact x_zret C hr hlk rfl dX12_workIs_153 hW
  · skip
    refine x_iconst C (v := (-1)) dX12_workIs_8 (by decide) rfl ?_
    exact x_zret C hr hlk rfl dX12_workIs_9 hW
theorem dX12_draws_0 : decode cX12_draws 0 = .ok (.aload_n 0, 1) := by decide +kernel
theorem dX12_draws_1 : decode cX12_draws 1 = .ok (.getfield 7, 3) := by decide +kernel
theorem dX12_draws_4 : decode cX12_draws 4 = .ok (.sipush 380, 3) := by decide +kernel
theorem dX12_draws_7 : decode cX12_draws 7 = .ok (.sipush 25173, 3) := by decide +kernel
theorem dX12_draws_10 : decode cX12_draws 10 = .ok (.aload_n 0, 1) := by decide +kernel
theorem dX12_draws_11 : decode cX12_draws 11 = .ok (.getfield 7, 3) := by decide +kernel
theorem dX12_draws_14 : decode cX12_draws 14 = .ok (.sipush 380, 3) := by decide +kernel
theorem dX12_draws_17 : decode cX12_draws 17 = .ok (.iaload, 1) := by decide +kernel
theorem dX12_draws_18 : decode cX12_draws 18 = .ok (.imul, 1) := by decide +kernel
theorem dX12_draws_19 : decode cX12_draws 19 = .ok (.sipush 13849, 3) := by decide +kernel
theorem dX12_draws_22 : decode cX12_draws 22 = .ok (.iadd, 1) := by decide +kernel
theorem dX12_draws_23 : decode cX12_draws 23 = .ok (.ldc_w 303, 3) := by decide +kernel
theorem dX12_draws_26 : decode cX12_draws 26 = .ok (.irem, 1) := by decide +kernel
theorem dX12_draws_27 : decode cX12_draws 27 = .ok (.iastore, 1) := by decide +kernel
theorem dX12_draws_28 : decode cX12_draws 28 = .ok (.aload_n 0, 1) := by decide +kernel
theorem dX12_draws_29 : decode cX12_draws 29 = .ok (.getfield 7, 3) := by decide +kernel
theorem dX12_draws_32 : decode cX12_draws 32 = .ok (.sipush 380, 3) := by decide +kernel
theorem dX12_draws_35 : decode cX12_draws 35 = .ok (.iaload, 1) := by decide +kernel
theorem dX12_draws_36 : decode cX12_draws 36 = .ok (.bipush 10, 2) := by decide +kernel
theorem dX12_draws_38 : decode cX12_draws 38 = .ok (.irem, 1) := by decide +kernel
theorem dX12_draws_39 : decode cX12_draws 39 = .ok (.ireturn, 1) := by decide +kernel
set_option maxRecDepth 20000 in
set_option maxHeartbeats 4000000 in
theorem m_draws (E : xE) (l : Launch) (a : Nat → Nat) (cd : Cd) (hG : Good cd) (ws : va_W) (hW : WX (okM E a cd) ws) : xI E l yX12_draws cX12_draws 1 (some .int) 0 [.ref (a 0)] ws (fun r w => WX (okM E a cd) w ∧ keeps ws w (fun q => q = 1) ∧ (dwK E a ws w)) := by
  refine xI_start (lv := [(0, .ref (a 0))]) RX12 (by decide) rfl (Nat.le_of_ble_eq_true rfl) rfl (fun p e s m below meth c A C hr hlk => ?_)
  have kp0 : keeps ws ws (fun q => q = 1) := keeps_rf
  obtain ⟨_, k1, f2, pf3, rfl⟩ := hW 1 _ rfl
  refine x_aload_n C dX12_draws_0 rfl 0 rfl rfl ?_
  obtain ⟨_, k4, n5, n7, n9, v11, v12, v13, n14, n16, n18, n20, v22, v23, v24, v25, n26, n28, v30, bn6, bn8, bn10, bn15, bn17, bn19, bn21, bn27, bn29, zv31, rfl⟩ := hW 0 _ rfl
  refine x_get C (ci := 11) (k := 0) 0 k4 rfl in_X12 (by decide) w_1118 rfl dX12_draws_1 rfl ?_
  refine x_sipush C (v := 380) dX12_draws_4 (by decide) rfl ?_
  refine x_sipush C (v := 25173) dX12_draws_7 (by decide) rfl ?_
  refine x_aload_n C dX12_draws_10 rfl 0 rfl rfl ?_
  refine x_get C (ci := 11) (k := 0) 0 k4 rfl in_X12 (by decide) w_1118 rfl dX12_draws_11 rfl ?_
  refine x_sipush C (v := 380) dX12_draws_14 (by decide) rfl ?_
  refine x_iald C (v := (f2 (380 : Int32).toNatClampNeg)) 1 k1 (vp_k (j := 380) (by decide) (by decide) (by decide)) rfl dX12_draws_17 rfl ?_
  refine x_any (fun v32 => ?_)
  refine x_imul C (v := ((25173 : Int32) * v32)) dX12_draws_18 rfl rfl ?_
  refine x_any (fun v33 => ?_)
  refine x_sipush C (v := 13849) dX12_draws_19 (by decide) rfl ?_
  refine x_iadd C (v := (v33 + (13849 : Int32))) dX12_draws_22 rfl rfl ?_
  refine x_any (fun v34 => ?_)
  refine x_ldcw C w_1509 dX12_draws_23 rfl ?_
  refine x_irem C (v := (v34 - v34 / (65536 : Int32) * (65536 : Int32))) dX12_draws_26 (by decide) rfl rfl ?_
  refine x_any (fun v35 => ?_)
  have pf36 : NB (upd f2 380 v35) := NB_free pf3 (by unfold bd; omega)
  obtain ⟨w37, hw38⟩ : ∃ w : va_W, w = List.set ws 1 (iA E (a 1) 382 (upd f2 380 v35)) := ⟨_, rfl⟩
  refine x_iask C 380 (by decide) (by decide) (by decide) 1 k1 hw38.symm dX12_draws_27 rfl ?_
  have hW39 : WX (okM E a cd) w37 := by rw [hw38]; exact hW.set (k := 1) rfl ⟨_, pf36, rfl⟩
  have k40 : w37[1]? = some (iA E (a 1) 382 (upd f2 380 v35)) := by rw [hw38]; exact set_eq k1
  have k41 : w37[0]? = some (ob (a 0) 11 [.ref (a 1), .ref (a 2), .ref (a 3), .ref (a 4), .int (nI n5), .int (nI n7), .int (nI n9), .int v11, .int v12, .int v13, .int (nI n14), .int (nI n16), .int (nI n18), .int (nI (cd.2.2.2.2.2)), .ref (a 5), .ref (a 6), .ref (a 7), .ref (a 8), .ref (a 9), .ref (a 10), .ref (a 11), .ref (a 12), .ref (a 13), .ref (a 14), .ref (a 15), .ref (a 16), .ref (a 17), .int (nI n20), .ref (a 18), .ref (a 19), .ref (a 20), .ref (a 21), .int v22, .int v23, .int v24, .int v25, .int (nI n26), .int (nI n28), .ref (a 22), .ref (a 23), .ref (a 24), .ref (a 25), .ref (a 26), .ref (a 27), .ref (a 28), .ref (a 29), .ref (a 30), .int v30]) := by rw [hw38]; exact set_ne k4 (by decide)
  have kp42 := keeps_set kp0 hw38 (by first | exact rfl | decide | omega | (dsimp only; omega))
  refine x_aload_n C dX12_draws_28 rfl 0 rfl rfl ?_
  refine x_get C (ci := 11) (k := 0) 0 k41 rfl in_X12 (by decide) w_1118 rfl dX12_draws_29 rfl ?_
  refine x_sipush C (v := 380) dX12_draws_32 (by decide) rfl ?_
  refine x_iald C (v := ((upd f2 380 v35) (380 : Int32).toNatClampNeg)) 1 k40 (vp_k (j := 380) (by decide) (by decide) (by decide)) rfl dX12_draws_35 rfl ?_
  refine x_any (fun v43 => ?_)
  refine x_bipush C (v := 10) dX12_draws_36 (by decide) rfl ?_
  refine x_irem C (v := (v43 - v43 / (10 : Int32) * (10 : Int32))) dX12_draws_38 (by decide) rfl rfl ?_
  refine x_any (fun v44 => ?_)
  exact x_zret C hr hlk rfl dX12_draws_39 ⟨hW39, kp42, (fun f hf => ⟨v35, by have q9 := iA_inj (hf.symm.trans k1); rw [q9]; exact k40⟩)⟩
theorem dX12_latest_0 : decode cX12_latest 0 = .ok (.aload_n 0, 1) := by decide +kernel
theorem dX12_latest_1 : decode cX12_latest 1 = .ok (.iload_n 1, 1) := by decide +kernel
theorem dX12_latest_2 : decode cX12_latest 2 = .ok (.invokevirtual 262, 3) := by decide +kernel
theorem dX12_latest_5 : decode cX12_latest 5 = .ok (.ifCond .eq 14, 3) := by decide +kernel
theorem dX12_latest_8 : decode cX12_latest 8 = .ok (.iload_n 2, 1) := by decide +kernel
theorem dX12_latest_9 : decode cX12_latest 9 = .ok (.iconst 1, 1) := by decide +kernel
theorem dX12_latest_10 : decode cX12_latest 10 = .ok (.sipush 999, 3) := by decide +kernel
theorem dX12_latest_13 : decode cX12_latest 13 = .ok (.invokestatic 109, 3) := by decide +kernel
theorem dX12_latest_16 : decode cX12_latest 16 = .ok (.ifCond .ne 5, 3) := by decide +kernel
theorem dX12_latest_19 : decode cX12_latest 19 = .ok (.iconst (-1), 1) := by decide +kernel
theorem dX12_latest_20 : decode cX12_latest 20 = .ok (.ireturn, 1) := by decide +kernel
theorem dX12_latest_21 : decode cX12_latest 21 = .ok (.aload_n 0, 1) := by decide +kernel
theorem dX12_latest_22 : decode cX12_latest 22 = .ok (.iload_n 1, 1) := by decide +kernel
theorem dX12_latest_23 : decode cX12_latest 23 = .ok (.invokevirtual 265, 3) := by decide +kernel
theorem dX12_latest_26 : decode cX12_latest 26 = .ok (.ifCond .eq 6, 3) := by decide +kernel
theorem dX12_latest_29 : decode cX12_latest 29 = .ok (.bipush (-3), 2) := by decide +kernel
theorem dX12_latest_31 : decode cX12_latest 31 = .ok (.ireturn, 1) := by decide +kernel
theorem dX12_latest_32 : decode cX12_latest 32 = .ok (.aload_n 0, 1) := by decide +kernel
theorem dX12_latest_33 : decode cX12_latest 33 = .ok (.getfield 7, 3) := by decide +kernel
theorem dX12_latest_36 : decode cX12_latest 36 = .ok (.sipush 338, 3) := by decide +kernel
theorem dX12_latest_39 : decode cX12_latest 39 = .ok (.iload_n 1, 1) := by decide +kernel
theorem dX12_latest_40 : decode cX12_latest 40 = .ok (.iadd, 1) := by decide +kernel
theorem dX12_latest_41 : decode cX12_latest 41 = .ok (.iaload, 1) := by decide +kernel
theorem dX12_latest_42 : decode cX12_latest 42 = .ok (.aload_n 0, 1) := by decide +kernel
theorem dX12_latest_43 : decode cX12_latest 43 = .ok (.getfield 7, 3) := by decide +kernel
theorem dX12_latest_46 : decode cX12_latest 46 = .ok (.sipush 346, 3) := by decide +kernel
theorem dX12_latest_49 : decode cX12_latest 49 = .ok (.iload_n 1, 1) := by decide +kernel
theorem dX12_latest_50 : decode cX12_latest 50 = .ok (.iadd, 1) := by decide +kernel
theorem dX12_latest_51 : decode cX12_latest 51 = .ok (.iaload, 1) := by decide +kernel
theorem dX12_latest_52 : decode cX12_latest 52 = .ok (.isub, 1) := by decide +kernel
theorem dX12_latest_53 : decode cX12_latest 53 = .ok (.iload_n 2, 1) := by decide +kernel
theorem dX12_latest_54 : decode cX12_latest 54 = .ok (.iadd, 1) := by decide +kernel
theorem dX12_latest_55 : decode cX12_latest 55 = .ok (.iconst 1, 1) := by decide +kernel
theorem dX12_latest_56 : decode cX12_latest 56 = .ok (.isub, 1) := by decide +kernel
theorem dX12_latest_57 : decode cX12_latest 57 = .ok (.iload_n 2, 1) := by decide +kernel
theorem dX12_latest_58 : decode cX12_latest 58 = .ok (.idiv, 1) := by decide +kernel
theorem dX12_latest_59 : decode cX12_latest 59 = .ok (.istore_n 3, 1) := by decide +kernel
theorem dX12_latest_60 : decode cX12_latest 60 = .ok (.aload_n 0, 1) := by decide +kernel
theorem dX12_latest_61 : decode cX12_latest 61 = .ok (.getfield 7, 3) := by decide +kernel
theorem dX12_latest_64 : decode cX12_latest 64 = .ok (.sipush 362, 3) := by decide +kernel
theorem dX12_latest_67 : decode cX12_latest 67 = .ok (.iload_n 1, 1) := by decide +kernel
theorem dX12_latest_68 : decode cX12_latest 68 = .ok (.iadd, 1) := by decide +kernel
theorem dX12_latest_69 : decode cX12_latest 69 = .ok (.iaload, 1) := by decide +kernel
theorem dX12_latest_70 : decode cX12_latest 70 = .ok (.iload_n 3, 1) := by decide +kernel
theorem dX12_latest_71 : decode cX12_latest 71 = .ok (.isub, 1) := by decide +kernel
theorem dX12_latest_72 : decode cX12_latest 72 = .ok (.iconst 1, 1) := by decide +kernel
theorem dX12_latest_73 : decode cX12_latest 73 = .ok (.iadd, 1) := by decide +kernel
theorem dX12_latest_74 : decode cX12_latest 74 = .ok (.istore 4, 2) := by decide +kernel
theorem dX12_latest_76 : decode cX12_latest 76 = .ok (.iload 4, 2) := by decide +kernel
theorem dX12_latest_78 : decode cX12_latest 78 = .ok (.aload_n 0, 1) := by decide +kernel
theorem dX12_latest_79 : decode cX12_latest 79 = .ok (.getfield 7, 3) := by decide +kernel
theorem dX12_latest_82 : decode cX12_latest 82 = .ok (.sipush 379, 3) := by decide +kernel
theorem dX12_latest_85 : decode cX12_latest 85 = .ok (.iaload, 1) := by decide +kernel
theorem dX12_latest_86 : decode cX12_latest 86 = .ok (.if_icmp .ge 8, 3) := by decide +kernel
theorem dX12_latest_89 : decode cX12_latest 89 = .ok (.bipush (-2), 2) := by decide +kernel
theorem dX12_latest_91 : decode cX12_latest 91 = .ok (.goto 5, 3) := by decide +kernel
theorem dX12_latest_94 : decode cX12_latest 94 = .ok (.iload 4, 2) := by decide +kernel
theorem dX12_latest_96 : decode cX12_latest 96 = .ok (.ireturn, 1) := by decide +kernel
set_option maxRecDepth 20000 in
set_option maxHeartbeats 4000000 in
theorem m_latest (E : xE) (l : Launch) (a : Nat → Nat) (cd : Cd) (hG : Good cd) (ws : va_W) (hW : WX (okM E a cd) ws) (p0 : Int32) (p1 : Int32) : xI E l yX12_latest cX12_latest 5 (some .int) 8 [.ref (a 0), .int p0, .int p1] ws (fun r w => WX (okM E a cd) w) := by
  refine xI_start (lv := [(0, .ref (a 0)), (1, .int p0), (2, .int p1)]) RX12 (by decide) rfl (Nat.le_of_ble_eq_true rfl) rfl (fun p e s m below meth c A C hr hlk => ?_)
  refine x_aload_n C dX12_latest_0 rfl 0 rfl rfl ?_
  refine x_iload_n C dX12_latest_1 rfl 1 rfl rfl ?_
  obtain ⟨_, k1, n2, n4, n6, v8, v9, v10, n11, n13, n15, n17, v19, v20, v21, v22, n23, n25, v27, bn3, bn5, bn7, bn12, bn14, bn16, bn18, bn24, bn26, zv28, rfl⟩ := hW 0 _ rfl
  refine x_vi C (As := [.int p0]) (rest := []) (m_isWork E l a cd hG ws hW p0) mf_X12_isWork w_1427 0 k1 rfl rfl rfl (Nat.le_of_ble_eq_true rfl) ⟨(Nat.le_of_ble_eq_true rfl), (Nat.le_of_ble_eq_true rfl)⟩ ⟨(Nat.le_of_ble_eq_true rfl), (Nat.le_of_ble_eq_true rfl)⟩ dX12_latest_2 rfl (fun r30 w31 h29 => ?_)
  obtain ⟨hW32, zb33, x34⟩ := h29
  refine x_ws hW32 ?_
  refine x_if_eq C (tgt := 19) dX12_latest_5 (by decide) rfl (fun c35 => ?_) (fun c35 => ?_)
  · skip
    refine x_iconst C (v := (-1)) dX12_latest_19 (by decide) rfl ?_
    exact x_zret C hr hlk rfl dX12_latest_20 hW
  · skip
    obtain ⟨j36, hl37, hh38, ej39⟩ := w_nat (a := 0) (b := 7) (by decide) (by decide) (x34 c35)
    subst ej39
    refine x_iload_n C dX12_latest_8 rfl 2 rfl rfl ?_
    refine x_iconst C (v := 1) dX12_latest_9 (by decide) rfl ?_
    refine x_sipush C (v := 999) dX12_latest_10 (by decide) rfl ?_
    refine x_si C (As := [.int p1, .int 1, .int 999]) (rest := []) (m_in E l a cd hG ws hW p1 (1 : Int32) (999 : Int32)) mf_X12_in w_1267 rfl rfl (Nat.le_of_ble_eq_true rfl) ⟨(Nat.le_of_ble_eq_true rfl), (Nat.le_of_ble_eq_true rfl)⟩ ⟨(Nat.le_of_ble_eq_true rfl), (Nat.le_of_ble_eq_true rfl)⟩ dX12_latest_13 rfl (fun r41 w42 h40 => ?_)
    obtain ⟨hW43, zb44, x45⟩ := h40
    refine x_ws hW43 ?_
    refine x_if_ne C (tgt := 21) dX12_latest_16 (by decide) rfl (fun c46 => ?_) (fun c46 => ?_)
    · skip
      obtain ⟨j47, hl48, hh49, ej50⟩ := w_nat (a := 1) (b := 999) (by decide) (by decide) (x45 c46)
      subst ej50
      refine x_aload_n C dX12_latest_21 rfl 0 rfl rfl ?_
      refine x_iload_n C dX12_latest_22 rfl 1 rfl rfl ?_
      refine x_vi C (As := [.int (nI j36)]) (rest := []) (m_isDone E l a cd hG ws hW j36 (by omega)) mf_X12_isDone w_1431 0 k1 rfl rfl rfl (Nat.le_of_ble_eq_true rfl) ⟨(Nat.le_of_ble_eq_true rfl), (Nat.le_of_ble_eq_true rfl)⟩ ⟨(Nat.le_of_ble_eq_true rfl), (Nat.le_of_ble_eq_true rfl)⟩ dX12_latest_23 rfl (fun r52 w53 h51 => ?_)
      obtain ⟨hW54, zb55⟩ := h51
      refine x_ws hW54 ?_
      refine x_if_eq C (tgt := 32) dX12_latest_26 (by decide) rfl (fun c56 => ?_) (fun c56 => ?_)
      · skip
        refine x_aload_n C dX12_latest_32 rfl 0 rfl rfl ?_
        refine x_get C (ci := 11) (k := 0) 0 k1 rfl in_X12 (by decide) w_1118 rfl dX12_latest_33 rfl ?_
        refine x_sipush C (v := 338) dX12_latest_36 (by decide) rfl ?_
        refine x_iload_n C dX12_latest_39 rfl 1 rfl rfl ?_
        refine x_iadd C (v := (nI (338 + j36))) dX12_latest_40 (nI_add 338 j36) rfl ?_
        obtain ⟨_, k57, f58, pf59, rfl⟩ := hW 1 _ rfl
        refine x_iald C (v := (f58 (nI (338 + j36)).toNatClampNeg)) 1 k57 (vp_in_nI (by omega) (by decide)) rfl dX12_latest_41 rfl ?_
        refine x_any (fun v60 => ?_)
        refine x_aload_n C dX12_latest_42 rfl 0 rfl rfl ?_
        refine x_get C (ci := 11) (k := 0) 0 k1 rfl in_X12 (by decide) w_1118 rfl dX12_latest_43 rfl ?_
        refine x_sipush C (v := 346) dX12_latest_46 (by decide) rfl ?_
        refine x_iload_n C dX12_latest_49 rfl 1 rfl rfl ?_
        refine x_iadd C (v := (nI (346 + j36))) dX12_latest_50 (nI_add 346 j36) rfl ?_
        refine x_iald C (v := (f58 (nI (346 + j36)).toNatClampNeg)) 1 k57 (vp_in_nI (by omega) (by decide)) rfl dX12_latest_51 rfl ?_
        refine x_any (fun v61 => ?_)
        refine x_isub C (v := (v60 - v61)) dX12_latest_52 rfl rfl ?_
        refine x_any (fun v62 => ?_)
        refine x_iload_n C dX12_latest_53 rfl 2 rfl rfl ?_
        refine x_iadd C (v := (v62 + (nI j47))) dX12_latest_54 rfl rfl ?_
        refine x_any (fun v63 => ?_)
        refine x_iconst C (v := 1) dX12_latest_55 (by decide) rfl ?_
        refine x_isub C (v := (v63 - (1 : Int32))) dX12_latest_56 rfl rfl ?_
        refine x_any (fun v64 => ?_)
        refine x_iload_n C dX12_latest_57 rfl 2 rfl rfl ?_
        refine x_idiv C (v := (v64 / (nI j47))) dX12_latest_58 (nz (by omega) (by omega)) rfl rfl ?_
        refine x_any (fun v65 => ?_)
        refine x_istore_n C (lv' := [(3, .int v65), (0, .ref (a 0)), (1, .int (nI j36)), (2, .int (nI j47))]) dX12_latest_59 rfl (by decide) rfl rfl ?_
        refine x_aload_n C dX12_latest_60 rfl 1 rfl rfl ?_
        refine x_get C (ci := 11) (k := 0) 0 k1 rfl in_X12 (by decide) w_1118 rfl dX12_latest_61 rfl ?_
        refine x_sipush C (v := 362) dX12_latest_64 (by decide) rfl ?_
        refine x_iload_n C dX12_latest_67 rfl 2 rfl rfl ?_
        refine x_iadd C (v := (nI (362 + j36))) dX12_latest_68 (nI_add 362 j36) rfl ?_
        refine x_iald C (v := (f58 (nI (362 + j36)).toNatClampNeg)) 1 k57 (vp_in_nI (by omega) (by decide)) rfl dX12_latest_69 rfl ?_
        refine x_any (fun v66 => ?_)
        refine x_iload_n C dX12_latest_70 rfl 0 rfl rfl ?_
        refine x_isub C (v := (v66 - v65)) dX12_latest_71 rfl rfl ?_
        refine x_any (fun v67 => ?_)
        refine x_iconst C (v := 1) dX12_latest_72 (by decide) rfl ?_
        refine x_iadd C (v := (v67 + (1 : Int32))) dX12_latest_73 rfl rfl ?_
        refine x_any (fun v68 => ?_)
        refine x_istore C (lv' := [(4, .int v68), (3, .int v65), (0, .ref (a 0)), (1, .int (nI j36)), (2, .int (nI j47))]) dX12_latest_74 (by decide) rfl rfl ?_
        refine x_iload C dX12_latest_76 0 rfl rfl ?_
        refine x_aload_n C dX12_latest_78 rfl 2 rfl rfl ?_
        refine x_get C (ci := 11) (k := 0) 0 k1 rfl in_X12 (by decide) w_1118 rfl dX12_latest_79 rfl ?_
        refine x_sipush C (v := 379) dX12_latest_82 (by decide) rfl ?_
        obtain ⟨n69, hn70, en71⟩ := NB_day pf59
        refine x_ialk C (v := nI n69) 379 (by decide) (by decide) (by decide) 1 k57 en71 dX12_latest_85 rfl ?_
        refine x_icmp_ge C (tgt := 94) dX12_latest_86 (by decide) rfl (fun c72 => ?_) (fun c72 => ?_)
        · skip
          refine x_iload C dX12_latest_94 0 rfl rfl ?_
          exact x_zret C hr hlk rfl dX12_latest_96 hW
        · skip
          refine x_bipush C (v := (-2)) dX12_latest_89 (by decide) rfl ?_
          refine x_goto C (tgt := 96) dX12_latest_91 (by decide) ?_
          exact x_zret C hr hlk rfl dX12_latest_96 hW
      · skip
        refine x_bipush C (v := (-3)) dX12_latest_29 (by decide) rfl ?_
        exact x_zret C hr hlk rfl dX12_latest_31 hW
    · skip
      refine x_iconst C (v := (-1)) dX12_latest_19 (by decide) rfl ?_
      exact x_zret C hr hlk rfl dX12_latest_20 hW
theorem dX12_moreOf_0 : decode cX12_moreOf 0 = .ok (.aload_n 0, 1) := by decide +kernel
theorem dX12_moreOf_1 : decode cX12_moreOf 1 = .ok (.getfield 7, 3) := by decide +kernel
theorem dX12_moreOf_4 : decode cX12_moreOf 4 = .ok (.sipush 288, 3) := by decide +kernel
theorem dX12_moreOf_7 : decode cX12_moreOf 7 = .ok (.iload_n 1, 1) := by decide +kernel
theorem dX12_moreOf_8 : decode cX12_moreOf 8 = .ok (.iadd, 1) := by decide +kernel
theorem dX12_moreOf_9 : decode cX12_moreOf 9 = .ok (.iaload, 1) := by decide +kernel
theorem dX12_moreOf_10 : decode cX12_moreOf 10 = .ok (.aload_n 0, 1) := by decide +kernel
theorem dX12_moreOf_11 : decode cX12_moreOf 11 = .ok (.getfield 7, 3) := by decide +kernel
theorem dX12_moreOf_14 : decode cX12_moreOf 14 = .ok (.sipush 296, 3) := by decide +kernel
theorem dX12_moreOf_17 : decode cX12_moreOf 17 = .ok (.iload_n 1, 1) := by decide +kernel
theorem dX12_moreOf_18 : decode cX12_moreOf 18 = .ok (.iadd, 1) := by decide +kernel
theorem dX12_moreOf_19 : decode cX12_moreOf 19 = .ok (.iaload, 1) := by decide +kernel
theorem dX12_moreOf_20 : decode cX12_moreOf 20 = .ok (.isub, 1) := by decide +kernel
theorem dX12_moreOf_21 : decode cX12_moreOf 21 = .ok (.aload_n 0, 1) := by decide +kernel
theorem dX12_moreOf_22 : decode cX12_moreOf 22 = .ok (.getfield 7, 3) := by decide +kernel
theorem dX12_moreOf_25 : decode cX12_moreOf 25 = .ok (.sipush 304, 3) := by decide +kernel
theorem dX12_moreOf_28 : decode cX12_moreOf 28 = .ok (.iload_n 1, 1) := by decide +kernel
theorem dX12_moreOf_29 : decode cX12_moreOf 29 = .ok (.iadd, 1) := by decide +kernel
theorem dX12_moreOf_30 : decode cX12_moreOf 30 = .ok (.iaload, 1) := by decide +kernel
theorem dX12_moreOf_31 : decode cX12_moreOf 31 = .ok (.isub, 1) := by decide +kernel
theorem dX12_moreOf_32 : decode cX12_moreOf 32 = .ok (.aload_n 0, 1) := by decide +kernel
theorem dX12_moreOf_33 : decode cX12_moreOf 33 = .ok (.getfield 7, 3) := by decide +kernel
theorem dX12_moreOf_36 : decode cX12_moreOf 36 = .ok (.sipush 312, 3) := by decide +kernel
theorem dX12_moreOf_39 : decode cX12_moreOf 39 = .ok (.iload_n 1, 1) := by decide +kernel
theorem dX12_moreOf_40 : decode cX12_moreOf 40 = .ok (.iadd, 1) := by decide +kernel
theorem dX12_moreOf_41 : decode cX12_moreOf 41 = .ok (.iaload, 1) := by decide +kernel
theorem dX12_moreOf_42 : decode cX12_moreOf 42 = .ok (.iadd, 1) := by decide +kernel
theorem dX12_moreOf_43 : decode cX12_moreOf 43 = .ok (.ireturn, 1) := by decide +kernel
set_option maxRecDepth 20000 in
set_option maxHeartbeats 4000000 in
theorem m_moreOf (E : xE) (l : Launch) (a : Nat → Nat) (cd : Cd) (hG : Good cd) (ws : va_W) (hW : WX (okM E a cd) ws) (i0 : Nat) (hi0 : i0 ≤ 7) : xI E l yX12_moreOf cX12_moreOf 2 (some .int) 0 [.ref (a 0), .int (nI i0)] ws (fun r w => w = ws) := by
  refine xI_start (lv := [(0, .ref (a 0)), (1, .int (nI i0))]) RX12 (by decide) rfl (Nat.le_of_ble_eq_true rfl) rfl (fun p e s m below meth c A C hr hlk => ?_)
  refine x_aload_n C dX12_moreOf_0 rfl 0 rfl rfl ?_
  obtain ⟨_, k1, n2, n4, n6, v8, v9, v10, n11, n13, n15, n17, v19, v20, v21, v22, n23, n25, v27, bn3, bn5, bn7, bn12, bn14, bn16, bn18, bn24, bn26, zv28, rfl⟩ := hW 0 _ rfl
  refine x_get C (ci := 11) (k := 0) 0 k1 rfl in_X12 (by decide) w_1118 rfl dX12_moreOf_1 rfl ?_
  refine x_sipush C (v := 288) dX12_moreOf_4 (by decide) rfl ?_
  refine x_iload_n C dX12_moreOf_7 rfl 1 rfl rfl ?_
  refine x_iadd C (v := (nI (288 + i0))) dX12_moreOf_8 (nI_add 288 i0) rfl ?_
  obtain ⟨_, k29, f30, pf31, rfl⟩ := hW 1 _ rfl
  refine x_iald C (v := (f30 (nI (288 + i0)).toNatClampNeg)) 1 k29 (vp_in_nI (by omega) (by decide)) rfl dX12_moreOf_9 rfl ?_
  refine x_any (fun v32 => ?_)
  refine x_aload_n C dX12_moreOf_10 rfl 0 rfl rfl ?_
  refine x_get C (ci := 11) (k := 0) 0 k1 rfl in_X12 (by decide) w_1118 rfl dX12_moreOf_11 rfl ?_
  refine x_sipush C (v := 296) dX12_moreOf_14 (by decide) rfl ?_
  refine x_iload_n C dX12_moreOf_17 rfl 1 rfl rfl ?_
  refine x_iadd C (v := (nI (296 + i0))) dX12_moreOf_18 (nI_add 296 i0) rfl ?_
  refine x_iald C (v := (f30 (nI (296 + i0)).toNatClampNeg)) 1 k29 (vp_in_nI (by omega) (by decide)) rfl dX12_moreOf_19 rfl ?_
  refine x_any (fun v33 => ?_)
  refine x_isub C (v := (v32 - v33)) dX12_moreOf_20 rfl rfl ?_
  refine x_any (fun v34 => ?_)
  refine x_aload_n C dX12_moreOf_21 rfl 0 rfl rfl ?_
  refine x_get C (ci := 11) (k := 0) 0 k1 rfl in_X12 (by decide) w_1118 rfl dX12_moreOf_22 rfl ?_
  refine x_sipush C (v := 304) dX12_moreOf_25 (by decide) rfl ?_
  refine x_iload_n C dX12_moreOf_28 rfl 1 rfl rfl ?_
  refine x_iadd C (v := (nI (304 + i0))) dX12_moreOf_29 (nI_add 304 i0) rfl ?_
  refine x_iald C (v := (f30 (nI (304 + i0)).toNatClampNeg)) 1 k29 (vp_in_nI (by omega) (by decide)) rfl dX12_moreOf_30 rfl ?_
  refine x_any (fun v35 => ?_)
  refine x_isub C (v := (v34 - v35)) dX12_moreOf_31 rfl rfl ?_
  refine x_any (fun v36 => ?_)
  refine x_aload_n C dX12_moreOf_32 rfl 0 rfl rfl ?_
  refine x_get C (ci := 11) (k := 0) 0 k1 rfl in_X12 (by decide) w_1118 rfl dX12_moreOf_33 rfl ?_
  refine x_sipush C (v := 312) dX12_moreOf_36 (by decide) rfl ?_
  refine x_iload_n C dX12_moreOf_39 rfl 1 rfl rfl ?_
  refine x_iadd C (v := (nI (312 + i0))) dX12_moreOf_40 (nI_add 312 i0) rfl ?_
  refine x_iald C (v := (f30 (nI (312 + i0)).toNatClampNeg)) 1 k29 (vp_in_nI (by omega) (by decide)) rfl dX12_moreOf_41 rfl ?_
  refine x_any (fun v37 => ?_)
  refine x_iadd C (v := (v36 + v37)) dX12_moreOf_42 rfl rfl ?_
  refine x_any (fun v38 => ?_)
  exact x_zret C hr hlk rfl dX12_moreOf_43 rfl
theorem dX12_seed_0 : decode cX12_seed 0 = .ok (.iload_n 1, 1) := by decide +kernel
theorem dX12_seed_1 : decode cX12_seed 1 = .ok (.iconst 0, 1) := by decide +kernel
theorem dX12_seed_2 : decode cX12_seed 2 = .ok (.ldc_w 402, 3) := by decide +kernel
theorem dX12_seed_5 : decode cX12_seed 5 = .ok (.invokestatic 109, 3) := by decide +kernel
theorem dX12_seed_8 : decode cX12_seed 8 = .ok (.ifCond .ne 5, 3) := by decide +kernel
theorem dX12_seed_11 : decode cX12_seed 11 = .ok (.iconst 0, 1) := by decide +kernel
theorem dX12_seed_12 : decode cX12_seed 12 = .ok (.ireturn, 1) := by decide +kernel
theorem dX12_seed_13 : decode cX12_seed 13 = .ok (.aload_n 0, 1) := by decide +kernel
theorem dX12_seed_14 : decode cX12_seed 14 = .ok (.getfield 7, 3) := by decide +kernel
theorem dX12_seed_17 : decode cX12_seed 17 = .ok (.sipush 380, 3) := by decide +kernel
theorem dX12_seed_20 : decode cX12_seed 20 = .ok (.iload_n 1, 1) := by decide +kernel
theorem dX12_seed_21 : decode cX12_seed 21 = .ok (.iastore, 1) := by decide +kernel
theorem dX12_seed_22 : decode cX12_seed 22 = .ok (.iconst 1, 1) := by decide +kernel
theorem dX12_seed_23 : decode cX12_seed 23 = .ok (.ireturn, 1) := by decide +kernel
set_option maxRecDepth 20000 in
set_option maxHeartbeats 4000000 in
theorem m_seed (E : xE) (l : Launch) (a : Nat → Nat) (cd : Cd) (hG : Good cd) (ws : va_W) (hW : WX (okM E a cd) ws) (p0 : Int32) : xI E l yX12_seed cX12_seed 2 (some .boolean) 8 [.ref (a 0), .int p0] ws (fun r w => WX (okM E a cd) w ∧ zb r) := by
  refine xI_start (lv := [(0, .ref (a 0)), (1, .int p0)]) RX12 (by decide) rfl (Nat.le_of_ble_eq_true rfl) rfl (fun p e s m below meth c A C hr hlk => ?_)
  refine x_iload_n C dX12_seed_0 rfl 1 rfl rfl ?_
  refine x_iconst C (v := 0) dX12_seed_1 (by decide) rfl ?_
  refine x_ldcw C w_1669 dX12_seed_2 rfl ?_
  refine x_si C (As := [.int p0, .int 0, .int 65535]) (rest := []) (m_in E l a cd hG ws hW p0 (0 : Int32) (65535 : Int32)) mf_X12_in w_1267 rfl rfl (Nat.le_of_ble_eq_true rfl) ⟨(Nat.le_of_ble_eq_true rfl), (Nat.le_of_ble_eq_true rfl)⟩ ⟨(Nat.le_of_ble_eq_true rfl), (Nat.le_of_ble_eq_true rfl)⟩ dX12_seed_5 rfl (fun r2 w3 h1 => ?_)
  obtain ⟨hW4, zb5, x6⟩ := h1
  refine x_ws hW4 ?_
  refine x_if_ne C (tgt := 13) dX12_seed_8 (by decide) rfl (fun c7 => ?_) (fun c7 => ?_)
  · skip
    obtain ⟨j8, hl9, hh10, ej11⟩ := w_nat (a := 0) (b := 65535) (by decide) (by decide) (x6 c7)
    subst ej11
    refine x_aload_n C dX12_seed_13 rfl 0 rfl rfl ?_
    obtain ⟨_, k12, n13, n15, n17, v19, v20, v21, n22, n24, n26, n28, v30, v31, v32, v33, n34, n36, v38, bn14, bn16, bn18, bn23, bn25, bn27, bn29, bn35, bn37, zv39, rfl⟩ := hW 0 _ rfl
    refine x_get C (ci := 11) (k := 0) 0 k12 rfl in_X12 (by decide) w_1118 rfl dX12_seed_14 rfl ?_
    refine x_sipush C (v := 380) dX12_seed_17 (by decide) rfl ?_
    refine x_iload_n C dX12_seed_20 rfl 1 rfl rfl ?_
    obtain ⟨_, k40, f41, pf42, rfl⟩ := hW 1 _ rfl
    have pf43 : NB (upd f41 380 (nI j8)) := NB_free pf42 (by unfold bd; omega)
    obtain ⟨w44, hw45⟩ : ∃ w : va_W, w = List.set ws 1 (iA E (a 1) 382 (upd f41 380 (nI j8))) := ⟨_, rfl⟩
    refine x_iask C 380 (by decide) (by decide) (by decide) 1 k40 hw45.symm dX12_seed_21 rfl ?_
    have hW46 : WX (okM E a cd) w44 := by rw [hw45]; exact hW.set (k := 1) rfl ⟨_, pf43, rfl⟩
    have k47 : w44[0]? = some (ob (a 0) 11 [.ref (a 1), .ref (a 2), .ref (a 3), .ref (a 4), .int (nI n13), .int (nI n15), .int (nI n17), .int v19, .int v20, .int v21, .int (nI n22), .int (nI n24), .int (nI n26), .int (nI (cd.2.2.2.2.2)), .ref (a 5), .ref (a 6), .ref (a 7), .ref (a 8), .ref (a 9), .ref (a 10), .ref (a 11), .ref (a 12), .ref (a 13), .ref (a 14), .ref (a 15), .ref (a 16), .ref (a 17), .int (nI n28), .ref (a 18), .ref (a 19), .ref (a 20), .ref (a 21), .int v30, .int v31, .int v32, .int v33, .int (nI n34), .int (nI n36), .ref (a 22), .ref (a 23), .ref (a 24), .ref (a 25), .ref (a 26), .ref (a 27), .ref (a 28), .ref (a 29), .ref (a 30), .int v38]) := by rw [hw45]; exact set_ne k12 (by decide)
    have k48 : w44[1]? = some (iA E (a 1) 382 (upd f41 380 (nI j8))) := by rw [hw45]; exact set_eq k40
    refine x_iconst C (v := 1) dX12_seed_22 (by decide) rfl ?_
    exact x_zret C hr hlk rfl dX12_seed_23 ⟨hW46, (Or.inr rfl)⟩
  · skip
    refine x_iconst C (v := 0) dX12_seed_11 (by decide) rfl ?_
    exact x_zret C hr hlk rfl dX12_seed_12 ⟨hW, (Or.inl rfl)⟩
theorem dX12_keep_0 : decode cX12_keep 0 = .ok (.aload_n 0, 1) := by decide +kernel
theorem dX12_keep_1 : decode cX12_keep 1 = .ok (.iconst 1, 1) := by decide +kernel
theorem dX12_keep_2 : decode cX12_keep 2 = .ok (.putfield 403, 3) := by decide +kernel
theorem dX12_keep_5 : decode cX12_keep 5 = .ok (.aload_n 0, 1) := by decide +kernel
theorem dX12_keep_6 : decode cX12_keep 6 = .ok (.getfield 7, 3) := by decide +kernel
theorem dX12_keep_9 : decode cX12_keep 9 = .ok (.aload_n 0, 1) := by decide +kernel
theorem dX12_keep_10 : decode cX12_keep 10 = .ok (.getfield 16, 3) := by decide +kernel
theorem dX12_keep_13 : decode cX12_keep 13 = .ok (.invokestatic 299, 3) := by decide +kernel
theorem dX12_keep_16 : decode cX12_keep 16 = .ok (.aload_n 0, 1) := by decide +kernel
theorem dX12_keep_17 : decode cX12_keep 17 = .ok (.iconst 0, 1) := by decide +kernel
theorem dX12_keep_18 : decode cX12_keep 18 = .ok (.invokevirtual 331, 3) := by decide +kernel
theorem dX12_keep_21 : decode cX12_keep 21 = .ok (.ireturn, 1) := by decide +kernel
set_option maxRecDepth 20000 in
set_option maxHeartbeats 4000000 in
theorem m_keep (E : xE) (l : Launch) (a : Nat → Nat) (cd : Cd) (hG : Good cd) (ws : va_W) (hW : WX (okM E a cd) ws) : xI E l yX12_keep cX12_keep 1 (some .int) 8 [.ref (a 0)] ws (fun r w => WX (okM E a cd) w) := by
  refine xI_start (lv := [(0, .ref (a 0))]) RX12 (by decide) rfl (Nat.le_of_ble_eq_true rfl) rfl (fun p e s m below meth c A C hr hlk => ?_)
  refine x_aload_n C dX12_keep_0 rfl 0 rfl rfl ?_
  refine x_iconst C (v := 1) dX12_keep_1 (by decide) rfl ?_
  obtain ⟨_, k1, n2, n4, n6, v8, v9, v10, n11, n13, n15, n17, v19, v20, v21, v22, n23, n25, v27, bn3, bn5, bn7, bn12, bn14, bn16, bn18, bn24, bn26, zv28, rfl⟩ := hW 0 _ rfl
  obtain ⟨w29, hw30⟩ : ∃ w : va_W, w = List.set ws 0 (ob (a 0) 11 [.ref (a 1), .ref (a 2), .ref (a 3), .ref (a 4), .int (nI n2), .int (nI n4), .int (nI n6), .int v8, .int v9, .int v10, .int (nI n11), .int (nI n13), .int (nI n15), .int (nI (cd.2.2.2.2.2)), .ref (a 5), .ref (a 6), .ref (a 7), .ref (a 8), .ref (a 9), .ref (a 10), .ref (a 11), .ref (a 12), .ref (a 13), .ref (a 14), .ref (a 15), .ref (a 16), .ref (a 17), .int (nI n17), .ref (a 18), .ref (a 19), .ref (a 20), .ref (a 21), .int v19, .int v20, .int v21, .int v22, .int (nI n23), .int (nI n25), .ref (a 22), .ref (a 23), .ref (a 24), .ref (a 25), .ref (a 26), .ref (a 27), .ref (a 28), .ref (a 29), .ref (a 30), .int 1]) := ⟨_, rfl⟩
  refine x_put C (ci := 11) (k := 47) (ty := .boolean) 0 k1 rfl in_X12 tyX12 tyX12_ok nmX12 (by decide) w_1165 rfl rfl rfl rfl (Nat.le_of_ble_eq_true rfl) hw30.symm dX12_keep_2 rfl ?_
  have hW31 : WX (okM E a cd) w29 := by rw [hw30]; exact hW.set (k := 0) rfl ⟨n2, n4, n6, v8, v9, v10, n11, n13, n15, n17, v19, v20, v21, v22, n23, n25, (1 : Int32), by omega, by omega, by omega, by omega, by omega, by omega, by omega, by omega, by omega, Or.inr rfl, rfl⟩
  have k32 : w29[0]? = some (ob (a 0) 11 [.ref (a 1), .ref (a 2), .ref (a 3), .ref (a 4), .int (nI n2), .int (nI n4), .int (nI n6), .int v8, .int v9, .int v10, .int (nI n11), .int (nI n13), .int (nI n15), .int (nI (cd.2.2.2.2.2)), .ref (a 5), .ref (a 6), .ref (a 7), .ref (a 8), .ref (a 9), .ref (a 10), .ref (a 11), .ref (a 12), .ref (a 13), .ref (a 14), .ref (a 15), .ref (a 16), .ref (a 17), .int (nI n17), .ref (a 18), .ref (a 19), .ref (a 20), .ref (a 21), .int v19, .int v20, .int v21, .int v22, .int (nI n23), .int (nI n25), .ref (a 22), .ref (a 23), .ref (a 24), .ref (a 25), .ref (a 26), .ref (a 27), .ref (a 28), .ref (a 29), .ref (a 30), .int 1]) := by rw [hw30]; exact set_eq k1
  refine x_aload_n C dX12_keep_5 rfl 0 rfl rfl ?_
  refine x_get C (ci := 11) (k := 0) 0 k32 rfl in_X12 (by decide) w_1118 rfl dX12_keep_6 rfl ?_
  refine x_aload_n C dX12_keep_9 rfl 0 rfl rfl ?_
  refine x_get C (ci := 11) (k := 2) 0 k32 rfl in_X12 (by decide) w_1120 rfl dX12_keep_10 rfl ?_
  refine x_sv C (As := [.ref (a 1), .ref (a 3)]) (rest := []) (m_copies13 E l a cd hG w29 hW31) mf_X12_copies w_1490 rfl rfl (Nat.le_of_ble_eq_true rfl) ⟨(Nat.le_of_ble_eq_true rfl), (Nat.le_of_ble_eq_true rfl)⟩ ⟨(Nat.le_of_ble_eq_true rfl), (Nat.le_of_ble_eq_true rfl)⟩ dX12_keep_13 rfl (fun w35 h33 => ?_)
  obtain ⟨hW36, kq37⟩ := h33
  have k38 : w35[0]? = some (ob (a 0) 11 [.ref (a 1), .ref (a 2), .ref (a 3), .ref (a 4), .int (nI n2), .int (nI n4), .int (nI n6), .int v8, .int v9, .int v10, .int (nI n11), .int (nI n13), .int (nI n15), .int (nI (cd.2.2.2.2.2)), .ref (a 5), .ref (a 6), .ref (a 7), .ref (a 8), .ref (a 9), .ref (a 10), .ref (a 11), .ref (a 12), .ref (a 13), .ref (a 14), .ref (a 15), .ref (a 16), .ref (a 17), .int (nI n17), .ref (a 18), .ref (a 19), .ref (a 20), .ref (a 21), .int v19, .int v20, .int v21, .int v22, .int (nI n23), .int (nI n25), .ref (a 22), .ref (a 23), .ref (a 24), .ref (a 25), .ref (a 26), .ref (a 27), .ref (a 28), .ref (a 29), .ref (a 30), .int 1]) := keeps_at kq37 k32 (by first | decide | omega | (dsimp only; omega))
  refine x_aload_n C dX12_keep_16 rfl 0 rfl rfl ?_
  refine x_iconst C (v := 0) dX12_keep_17 (by decide) rfl ?_
  refine x_vi C (As := [.int 0]) (rest := []) (m_howMany E l a cd hG w35 hW36 (0 : Int32)) mf_X12_howMany w_1526 0 k38 rfl rfl rfl (Nat.le_of_ble_eq_true rfl) ⟨(Nat.le_of_ble_eq_true rfl), (Nat.le_of_ble_eq_true rfl)⟩ ⟨(Nat.le_of_ble_eq_true rfl), (Nat.le_of_ble_eq_true rfl)⟩ dX12_keep_18 rfl (fun r40 w41 h39 => ?_)
  have hW42 := h39
  refine x_ws hW42 ?_
  exact x_zret C hr hlk rfl dX12_keep_21 hW36
theorem dX12_undo_0 : decode cX12_undo 0 = .ok (.aload_n 0, 1) := by decide +kernel
theorem dX12_undo_1 : decode cX12_undo 1 = .ok (.getfield 403, 3) := by decide +kernel
theorem dX12_undo_4 : decode cX12_undo 4 = .ok (.ifCond .ne 5, 3) := by decide +kernel
theorem dX12_undo_7 : decode cX12_undo 7 = .ok (.iconst 0, 1) := by decide +kernel
theorem dX12_undo_8 : decode cX12_undo 8 = .ok (.ireturn, 1) := by decide +kernel
theorem dX12_undo_9 : decode cX12_undo 9 = .ok (.aload_n 0, 1) := by decide +kernel
theorem dX12_undo_10 : decode cX12_undo 10 = .ok (.getfield 16, 3) := by decide +kernel
theorem dX12_undo_13 : decode cX12_undo 13 = .ok (.aload_n 0, 1) := by decide +kernel
theorem dX12_undo_14 : decode cX12_undo 14 = .ok (.getfield 7, 3) := by decide +kernel
theorem dX12_undo_17 : decode cX12_undo 17 = .ok (.invokestatic 299, 3) := by decide +kernel
theorem dX12_undo_20 : decode cX12_undo 20 = .ok (.iconst 1, 1) := by decide +kernel
theorem dX12_undo_21 : decode cX12_undo 21 = .ok (.ireturn, 1) := by decide +kernel
set_option maxRecDepth 20000 in
set_option maxHeartbeats 4000000 in
theorem m_undo (E : xE) (l : Launch) (a : Nat → Nat) (cd : Cd) (hG : Good cd) (ws : va_W) (hW : WX (okM E a cd) ws) : xI E l yX12_undo cX12_undo 1 (some .boolean) 8 [.ref (a 0)] ws (fun r w => WX (okM E a cd) w ∧ zb r) := by
  refine xI_start (lv := [(0, .ref (a 0))]) RX12 (by decide) rfl (Nat.le_of_ble_eq_true rfl) rfl (fun p e s m below meth c A C hr hlk => ?_)
  refine x_aload_n C dX12_undo_0 rfl 0 rfl rfl ?_
  obtain ⟨_, k1, n2, n4, n6, v8, v9, v10, n11, n13, n15, n17, v19, v20, v21, v22, n23, n25, v27, bn3, bn5, bn7, bn12, bn14, bn16, bn18, bn24, bn26, zv28, rfl⟩ := hW 0 _ rfl
  refine x_get C (ci := 11) (k := 47) 0 k1 rfl in_X12 (by decide) w_1165 rfl dX12_undo_1 rfl ?_
  refine x_if_ne C (tgt := 9) dX12_undo_4 (by decide) rfl (fun c29 => ?_) (fun c29 => ?_)
  · skip
    refine x_aload_n C dX12_undo_9 rfl 0 rfl rfl ?_
    refine x_get C (ci := 11) (k := 2) 0 k1 rfl in_X12 (by decide) w_1120 rfl dX12_undo_10 rfl ?_
    refine x_aload_n C dX12_undo_13 rfl 0 rfl rfl ?_
    refine x_get C (ci := 11) (k := 0) 0 k1 rfl in_X12 (by decide) w_1118 rfl dX12_undo_14 rfl ?_
    refine x_sv C (As := [.ref (a 3), .ref (a 1)]) (rest := []) (m_copies31 E l a cd hG ws hW) mf_X12_copies w_1490 rfl rfl (Nat.le_of_ble_eq_true rfl) ⟨(Nat.le_of_ble_eq_true rfl), (Nat.le_of_ble_eq_true rfl)⟩ ⟨(Nat.le_of_ble_eq_true rfl), (Nat.le_of_ble_eq_true rfl)⟩ dX12_undo_17 rfl (fun w32 h30 => ?_)
    obtain ⟨hW33, kq34⟩ := h30
    have k35 : w32[0]? = some (ob (a 0) 11 [.ref (a 1), .ref (a 2), .ref (a 3), .ref (a 4), .int (nI n2), .int (nI n4), .int (nI n6), .int v8, .int v9, .int v10, .int (nI n11), .int (nI n13), .int (nI n15), .int (nI (cd.2.2.2.2.2)), .ref (a 5), .ref (a 6), .ref (a 7), .ref (a 8), .ref (a 9), .ref (a 10), .ref (a 11), .ref (a 12), .ref (a 13), .ref (a 14), .ref (a 15), .ref (a 16), .ref (a 17), .int (nI n17), .ref (a 18), .ref (a 19), .ref (a 20), .ref (a 21), .int v19, .int v20, .int v21, .int v22, .int (nI n23), .int (nI n25), .ref (a 22), .ref (a 23), .ref (a 24), .ref (a 25), .ref (a 26), .ref (a 27), .ref (a 28), .ref (a 29), .ref (a 30), .int v27]) := keeps_at kq34 k1 (by first | decide | omega | (dsimp only; omega))
    refine x_iconst C (v := 1) dX12_undo_20 (by decide) rfl ?_
    exact x_zret C hr hlk rfl dX12_undo_21 ⟨hW33, (Or.inr rfl)⟩
  · skip
    refine x_iconst C (v := 0) dX12_undo_7 (by decide) rfl ?_
    exact x_zret C hr hlk rfl dX12_undo_8 ⟨hW, (Or.inl rfl)⟩
theorem dX12_apart_0 : decode cX12_apart 0 = .ok (.iload_n 0, 1) := by decide +kernel
theorem dX12_apart_1 : decode cX12_apart 1 = .ok (.iload_n 1, 1) := by decide +kernel
theorem dX12_apart_2 : decode cX12_apart 2 = .ok (.if_icmp .ge 9, 3) := by decide +kernel
theorem dX12_apart_5 : decode cX12_apart 5 = .ok (.iload_n 1, 1) := by decide +kernel
theorem dX12_apart_6 : decode cX12_apart 6 = .ok (.iload_n 0, 1) := by decide +kernel
theorem dX12_apart_7 : decode cX12_apart 7 = .ok (.isub, 1) := by decide +kernel
theorem dX12_apart_8 : decode cX12_apart 8 = .ok (.goto 6, 3) := by decide +kernel
theorem dX12_apart_11 : decode cX12_apart 11 = .ok (.iload_n 0, 1) := by decide +kernel
theorem dX12_apart_12 : decode cX12_apart 12 = .ok (.iload_n 1, 1) := by decide +kernel
theorem dX12_apart_13 : decode cX12_apart 13 = .ok (.isub, 1) := by decide +kernel
theorem dX12_apart_14 : decode cX12_apart 14 = .ok (.ireturn, 1) := by decide +kernel
set_option maxRecDepth 20000 in
set_option maxHeartbeats 4000000 in
theorem m_apart (E : xE) (l : Launch) (a : Nat → Nat) (cd : Cd) (hG : Good cd) (ws : va_W) (hW : WX (okM E a cd) ws) (p0 : Int32) (p1 : Int32) : xI E l yX12_apart cX12_apart 2 (some .int) 0 [.int p0, .int p1] ws (fun r w => w = ws) := by
  refine xI_start (lv := [(0, .int p0), (1, .int p1)]) RX12 (by decide) rfl (Nat.le_of_ble_eq_true rfl) rfl (fun p e s m below meth c A C hr hlk => ?_)
  refine x_iload_n C dX12_apart_0 rfl 0 rfl rfl ?_
  refine x_iload_n C dX12_apart_1 rfl 1 rfl rfl ?_
  refine x_icmp_ge C (tgt := 11) dX12_apart_2 (by decide) rfl (fun c1 => ?_) (fun c1 => ?_)
  · skip
    refine x_iload_n C dX12_apart_11 rfl 0 rfl rfl ?_
    refine x_iload_n C dX12_apart_12 rfl 1 rfl rfl ?_
    refine x_isub C (v := (p0 - p1)) dX12_apart_13 rfl rfl ?_
    refine x_any (fun v2 => ?_)
    exact x_zret C hr hlk rfl dX12_apart_14 rfl
  · skip
    refine x_iload_n C dX12_apart_5 rfl 1 rfl rfl ?_
    refine x_iload_n C dX12_apart_6 rfl 0 rfl rfl ?_
    refine x_isub C (v := (p1 - p0)) dX12_apart_7 rfl rfl ?_
    refine x_any (fun v3 => ?_)
    refine x_goto C (tgt := 14) dX12_apart_8 (by decide) ?_
    exact x_zret C hr hlk rfl dX12_apart_14 rfl
theorem dX12_count_0 : decode cX12_count 0 = .ok (.iload_n 1, 1) := by decide +kernel
theorem dX12_count_1 : decode cX12_count 1 = .ok (.tableswitch 141 0 10 #[59, 68, 77, 83, 89, 95, 100, 105, 114, 123, 132], 59) := by decide +kernel
theorem dX12_count_60 : decode cX12_count 60 = .ok (.aload_n 0, 1) := by decide +kernel
theorem dX12_count_61 : decode cX12_count 61 = .ok (.getfield 7, 3) := by decide +kernel
theorem dX12_count_64 : decode cX12_count 64 = .ok (.sipush 379, 3) := by decide +kernel
theorem dX12_count_67 : decode cX12_count 67 = .ok (.iaload, 1) := by decide +kernel
theorem dX12_count_68 : decode cX12_count 68 = .ok (.ireturn, 1) := by decide +kernel
theorem dX12_count_69 : decode cX12_count 69 = .ok (.aload_n 0, 1) := by decide +kernel
theorem dX12_count_70 : decode cX12_count 70 = .ok (.getfield 7, 3) := by decide +kernel
theorem dX12_count_73 : decode cX12_count 73 = .ok (.sipush 381, 3) := by decide +kernel
theorem dX12_count_76 : decode cX12_count 76 = .ok (.iaload, 1) := by decide +kernel
theorem dX12_count_77 : decode cX12_count 77 = .ok (.ireturn, 1) := by decide +kernel
theorem dX12_count_78 : decode cX12_count 78 = .ok (.aload_n 0, 1) := by decide +kernel
theorem dX12_count_79 : decode cX12_count 79 = .ok (.iconst 0, 1) := by decide +kernel
theorem dX12_count_80 : decode cX12_count 80 = .ok (.invokevirtual 331, 3) := by decide +kernel
theorem dX12_count_83 : decode cX12_count 83 = .ok (.ireturn, 1) := by decide +kernel
theorem dX12_count_84 : decode cX12_count 84 = .ok (.aload_n 0, 1) := by decide +kernel
theorem dX12_count_85 : decode cX12_count 85 = .ok (.iconst 1, 1) := by decide +kernel
theorem dX12_count_86 : decode cX12_count 86 = .ok (.invokevirtual 331, 3) := by decide +kernel
theorem dX12_count_89 : decode cX12_count 89 = .ok (.ireturn, 1) := by decide +kernel
theorem dX12_count_90 : decode cX12_count 90 = .ok (.aload_n 0, 1) := by decide +kernel
theorem dX12_count_91 : decode cX12_count 91 = .ok (.iconst 2, 1) := by decide +kernel
theorem dX12_count_92 : decode cX12_count 92 = .ok (.invokevirtual 331, 3) := by decide +kernel
theorem dX12_count_95 : decode cX12_count 95 = .ok (.ireturn, 1) := by decide +kernel
theorem dX12_count_96 : decode cX12_count 96 = .ok (.aload_n 0, 1) := by decide +kernel
theorem dX12_count_97 : decode cX12_count 97 = .ok (.getfield 223, 3) := by decide +kernel
theorem dX12_count_100 : decode cX12_count 100 = .ok (.ireturn, 1) := by decide +kernel
theorem dX12_count_101 : decode cX12_count 101 = .ok (.aload_n 0, 1) := by decide +kernel
theorem dX12_count_102 : decode cX12_count 102 = .ok (.getfield 123, 3) := by decide +kernel
theorem dX12_count_105 : decode cX12_count 105 = .ok (.ireturn, 1) := by decide +kernel
theorem dX12_count_106 : decode cX12_count 106 = .ok (.aload_n 0, 1) := by decide +kernel
theorem dX12_count_107 : decode cX12_count 107 = .ok (.getfield 7, 3) := by decide +kernel
theorem dX12_count_110 : decode cX12_count 110 = .ok (.sipush 380, 3) := by decide +kernel
theorem dX12_count_113 : decode cX12_count 113 = .ok (.iaload, 1) := by decide +kernel
theorem dX12_count_114 : decode cX12_count 114 = .ok (.ireturn, 1) := by decide +kernel
theorem dX12_count_115 : decode cX12_count 115 = .ok (.aload_n 0, 1) := by decide +kernel
theorem dX12_count_116 : decode cX12_count 116 = .ok (.getfield 7, 3) := by decide +kernel
theorem dX12_count_119 : decode cX12_count 119 = .ok (.sipush 320, 3) := by decide +kernel
theorem dX12_count_122 : decode cX12_count 122 = .ok (.iaload, 1) := by decide +kernel
theorem dX12_count_123 : decode cX12_count 123 = .ok (.ireturn, 1) := by decide +kernel
theorem dX12_count_124 : decode cX12_count 124 = .ok (.aload_n 0, 1) := by decide +kernel
theorem dX12_count_125 : decode cX12_count 125 = .ok (.getfield 7, 3) := by decide +kernel
theorem dX12_count_128 : decode cX12_count 128 = .ok (.sipush 337, 3) := by decide +kernel
theorem dX12_count_131 : decode cX12_count 131 = .ok (.iaload, 1) := by decide +kernel
theorem dX12_count_132 : decode cX12_count 132 = .ok (.ireturn, 1) := by decide +kernel
theorem dX12_count_133 : decode cX12_count 133 = .ok (.aload_n 0, 1) := by decide +kernel
theorem dX12_count_134 : decode cX12_count 134 = .ok (.getfield 7, 3) := by decide +kernel
theorem dX12_count_137 : decode cX12_count 137 = .ok (.sipush 378, 3) := by decide +kernel
theorem dX12_count_140 : decode cX12_count 140 = .ok (.iaload, 1) := by decide +kernel
theorem dX12_count_141 : decode cX12_count 141 = .ok (.ireturn, 1) := by decide +kernel
theorem dX12_count_142 : decode cX12_count 142 = .ok (.iload_n 1, 1) := by decide +kernel
theorem dX12_count_143 : decode cX12_count 143 = .ok (.bipush 20, 2) := by decide +kernel
theorem dX12_count_145 : decode cX12_count 145 = .ok (.bipush 27, 2) := by decide +kernel
theorem dX12_count_147 : decode cX12_count 147 = .ok (.invokestatic 109, 3) := by decide +kernel
theorem dX12_count_150 : decode cX12_count 150 = .ok (.ifCond .eq 28, 3) := by decide +kernel
theorem dX12_count_153 : decode cX12_count 153 = .ok (.aload_n 0, 1) := by decide +kernel
theorem dX12_count_154 : decode cX12_count 154 = .ok (.iload_n 1, 1) := by decide +kernel
theorem dX12_count_155 : decode cX12_count 155 = .ok (.bipush 20, 2) := by decide +kernel
theorem dX12_count_157 : decode cX12_count 157 = .ok (.isub, 1) := by decide +kernel
theorem dX12_count_158 : decode cX12_count 158 = .ok (.invokevirtual 116, 3) := by decide +kernel
theorem dX12_count_161 : decode cX12_count 161 = .ok (.ifCond .eq 17, 3) := by decide +kernel
theorem dX12_count_164 : decode cX12_count 164 = .ok (.aload_n 0, 1) := by decide +kernel
theorem dX12_count_165 : decode cX12_count 165 = .ok (.getfield 7, 3) := by decide +kernel
theorem dX12_count_168 : decode cX12_count 168 = .ok (.sipush 321, 3) := by decide +kernel
theorem dX12_count_171 : decode cX12_count 171 = .ok (.iload_n 1, 1) := by decide +kernel
theorem dX12_count_172 : decode cX12_count 172 = .ok (.iadd, 1) := by decide +kernel
theorem dX12_count_173 : decode cX12_count 173 = .ok (.bipush 20, 2) := by decide +kernel
theorem dX12_count_175 : decode cX12_count 175 = .ok (.isub, 1) := by decide +kernel
theorem dX12_count_176 : decode cX12_count 176 = .ok (.iaload, 1) := by decide +kernel
theorem dX12_count_177 : decode cX12_count 177 = .ok (.ireturn, 1) := by decide +kernel
theorem dX12_count_178 : decode cX12_count 178 = .ok (.iload_n 1, 1) := by decide +kernel
theorem dX12_count_179 : decode cX12_count 179 = .ok (.bipush 30, 2) := by decide +kernel
theorem dX12_count_181 : decode cX12_count 181 = .ok (.bipush 37, 2) := by decide +kernel
theorem dX12_count_183 : decode cX12_count 183 = .ok (.invokestatic 109, 3) := by decide +kernel
theorem dX12_count_186 : decode cX12_count 186 = .ok (.ifCond .eq 30, 3) := by decide +kernel
theorem dX12_count_189 : decode cX12_count 189 = .ok (.aload_n 0, 1) := by decide +kernel
theorem dX12_count_190 : decode cX12_count 190 = .ok (.iload_n 1, 1) := by decide +kernel
theorem dX12_count_191 : decode cX12_count 191 = .ok (.bipush 30, 2) := by decide +kernel
theorem dX12_count_193 : decode cX12_count 193 = .ok (.isub, 1) := by decide +kernel
theorem dX12_count_194 : decode cX12_count 194 = .ok (.invokevirtual 116, 3) := by decide +kernel
theorem dX12_count_197 : decode cX12_count 197 = .ok (.ifCond .eq 19, 3) := by decide +kernel
theorem dX12_count_200 : decode cX12_count 200 = .ok (.aload_n 0, 1) := by decide +kernel
theorem dX12_count_201 : decode cX12_count 201 = .ok (.getfield 7, 3) := by decide +kernel
theorem dX12_count_204 : decode cX12_count 204 = .ok (.sipush 329, 3) := by decide +kernel
theorem dX12_count_207 : decode cX12_count 207 = .ok (.iload_n 1, 1) := by decide +kernel
theorem dX12_count_208 : decode cX12_count 208 = .ok (.iadd, 1) := by decide +kernel
theorem dX12_count_209 : decode cX12_count 209 = .ok (.bipush 30, 2) := by decide +kernel
theorem dX12_count_211 : decode cX12_count 211 = .ok (.isub, 1) := by decide +kernel
theorem dX12_count_212 : decode cX12_count 212 = .ok (.iaload, 1) := by decide +kernel
theorem dX12_count_213 : decode cX12_count 213 = .ok (.goto 4, 3) := by decide +kernel
theorem dX12_count_216 : decode cX12_count 216 = .ok (.iconst (-1), 1) := by decide +kernel
theorem dX12_count_217 : decode cX12_count 217 = .ok (.ireturn, 1) := by decide +kernel
set_option maxRecDepth 20000 in
set_option maxHeartbeats 4000000 in
theorem m_count (E : xE) (l : Launch) (a : Nat → Nat) (cd : Cd) (hG : Good cd) (ws : va_W) (hW : WX (okM E a cd) ws) (p0 : Int32) : xI E l yX12_count cX12_count 2 (some .int) 8 [.ref (a 0), .int p0] ws (fun r w => WX (okM E a cd) w) := by
  refine xI_start (lv := [(0, .ref (a 0)), (1, .int p0)]) RX12 (by decide) rfl (Nat.le_of_ble_eq_true rfl) rfl (fun p e s m below meth c A C hr hlk => ?_)
  refine x_iload_n C dX12_count_0 rfl 1 rfl rfl ?_
  by_cases s1 : (p0).toInt < 0
  · refine x_tabOut C (tgt := 142) dX12_count_1 (Or.inl s1) (by decide) ?_
    refine x_iload_n C dX12_count_142 rfl 1 rfl rfl ?_
    refine x_bipush C (v := 20) dX12_count_143 (by decide) rfl ?_
    refine x_bipush C (v := 27) dX12_count_145 (by decide) rfl ?_
    refine x_si C (As := [.int p0, .int 20, .int 27]) (rest := []) (m_in E l a cd hG ws hW p0 (20 : Int32) (27 : Int32)) mf_X12_in w_1267 rfl rfl (Nat.le_of_ble_eq_true rfl) ⟨(Nat.le_of_ble_eq_true rfl), (Nat.le_of_ble_eq_true rfl)⟩ ⟨(Nat.le_of_ble_eq_true rfl), (Nat.le_of_ble_eq_true rfl)⟩ dX12_count_147 rfl (fun r4 w5 h3 => ?_)
    obtain ⟨hW6, zb7, x8⟩ := h3
    refine x_ws hW6 ?_
    refine x_if_eq C (tgt := 178) dX12_count_150 (by decide) rfl (fun c9 => ?_) (fun c9 => ?_)
    · skip
      refine x_iload_n C dX12_count_178 rfl 1 rfl rfl ?_
      refine x_bipush C (v := 30) dX12_count_179 (by decide) rfl ?_
      refine x_bipush C (v := 37) dX12_count_181 (by decide) rfl ?_
      refine x_si C (As := [.int p0, .int 30, .int 37]) (rest := []) (m_in E l a cd hG ws hW p0 (30 : Int32) (37 : Int32)) mf_X12_in w_1267 rfl rfl (Nat.le_of_ble_eq_true rfl) ⟨(Nat.le_of_ble_eq_true rfl), (Nat.le_of_ble_eq_true rfl)⟩ ⟨(Nat.le_of_ble_eq_true rfl), (Nat.le_of_ble_eq_true rfl)⟩ dX12_count_183 rfl (fun r11 w12 h10 => ?_)
      obtain ⟨hW13, zb14, x15⟩ := h10
      refine x_ws hW13 ?_
      refine x_if_eq C (tgt := 216) dX12_count_186 (by decide) rfl (fun c16 => ?_) (fun c16 => ?_)
      · skip
        refine x_iconst C (v := (-1)) dX12_count_216 (by decide) rfl ?_
        exact x_zret C hr hlk rfl dX12_count_217 hW
      · skip
        obtain ⟨j17, hl18, hh19, ej20⟩ := w_nat (a := 30) (b := 37) (by decide) (by decide) (x15 c16)
        subst ej20
        refine x_aload_n C dX12_count_189 rfl 0 rfl rfl ?_
        refine x_iload_n C dX12_count_190 rfl 1 rfl rfl ?_
        refine x_bipush C (v := 30) dX12_count_191 (by decide) rfl ?_
        refine x_isub C (v := (nI (j17 - 30))) dX12_count_193 (pk_sub (a := j17) (b := 30) (by omega)) rfl ?_
        obtain ⟨_, k21, n22, n24, n26, v28, v29, v30, n31, n33, n35, n37, v39, v40, v41, v42, n43, n45, v47, bn23, bn25, bn27, bn32, bn34, bn36, bn38, bn44, bn46, zv48, rfl⟩ := hW 0 _ rfl
        refine x_vi C (As := [.int (nI (j17 - 30))]) (rest := []) (m_isHen E l a cd hG ws hW ((nI (j17 - 30)))) mf_X12_isHen w_1285 0 k21 rfl rfl rfl (Nat.le_of_ble_eq_true rfl) ⟨(Nat.le_of_ble_eq_true rfl), (Nat.le_of_ble_eq_true rfl)⟩ ⟨(Nat.le_of_ble_eq_true rfl), (Nat.le_of_ble_eq_true rfl)⟩ dX12_count_194 rfl (fun r50 w51 h49 => ?_)
        obtain ⟨hW52, zb53, x54⟩ := h49
        refine x_ws hW52 ?_
        refine x_if_eq C (tgt := 216) dX12_count_197 (by decide) rfl (fun c55 => ?_) (fun c55 => ?_)
        · skip
          refine x_iconst C (v := (-1)) dX12_count_216 (by decide) rfl ?_
          exact x_zret C hr hlk rfl dX12_count_217 hW
        · skip
          have wi56 := wth_le (a := 0) (b := 7) (j := (j17 - 30)) (x54 c55) (by omega) (by decide) (by decide)
          refine x_aload_n C dX12_count_200 rfl 0 rfl rfl ?_
          refine x_get C (ci := 11) (k := 0) 0 k21 rfl in_X12 (by decide) w_1118 rfl dX12_count_201 rfl ?_
          refine x_sipush C (v := 329) dX12_count_204 (by decide) rfl ?_
          refine x_iload_n C dX12_count_207 rfl 1 rfl rfl ?_
          refine x_iadd C (v := (nI (329 + j17))) dX12_count_208 (nI_add 329 j17) rfl ?_
          refine x_bipush C (v := 30) dX12_count_209 (by decide) rfl ?_
          refine x_isub C (v := (nI ((329 + j17) - 30))) dX12_count_211 (pk_sub (a := (329 + j17)) (b := 30) (by omega)) rfl ?_
          obtain ⟨_, k57, f58, pf59, rfl⟩ := hW 1 _ rfl
          refine x_iald C (v := (f58 (nI ((329 + j17) - 30)).toNatClampNeg)) 1 k57 (vp_in_nI (by omega) (by decide)) rfl dX12_count_212 rfl ?_
          refine x_any (fun v60 => ?_)
          refine x_goto C (tgt := 217) dX12_count_213 (by decide) ?_
          exact x_zret C hr hlk rfl dX12_count_217 hW
    · skip
      obtain ⟨j61, hl62, hh63, ej64⟩ := w_nat (a := 20) (b := 27) (by decide) (by decide) (x8 c9)
      subst ej64
      refine x_aload_n C dX12_count_153 rfl 0 rfl rfl ?_
      refine x_iload_n C dX12_count_154 rfl 1 rfl rfl ?_
      refine x_bipush C (v := 20) dX12_count_155 (by decide) rfl ?_
      refine x_isub C (v := (nI (j61 - 20))) dX12_count_157 (pk_sub (a := j61) (b := 20) (by omega)) rfl ?_
      obtain ⟨_, k65, n66, n68, n70, v72, v73, v74, n75, n77, n79, n81, v83, v84, v85, v86, n87, n89, v91, bn67, bn69, bn71, bn76, bn78, bn80, bn82, bn88, bn90, zv92, rfl⟩ := hW 0 _ rfl
      refine x_vi C (As := [.int (nI (j61 - 20))]) (rest := []) (m_isHen E l a cd hG ws hW ((nI (j61 - 20)))) mf_X12_isHen w_1285 0 k65 rfl rfl rfl (Nat.le_of_ble_eq_true rfl) ⟨(Nat.le_of_ble_eq_true rfl), (Nat.le_of_ble_eq_true rfl)⟩ ⟨(Nat.le_of_ble_eq_true rfl), (Nat.le_of_ble_eq_true rfl)⟩ dX12_count_158 rfl (fun r94 w95 h93 => ?_)
      obtain ⟨hW96, zb97, x98⟩ := h93
      refine x_ws hW96 ?_
      refine x_if_eq C (tgt := 178) dX12_count_161 (by decide) rfl (fun c99 => ?_) (fun c99 => ?_)
      · skip
        refine x_iload_n C dX12_count_178 rfl 1 rfl rfl ?_
        refine x_bipush C (v := 30) dX12_count_179 (by decide) rfl ?_
        refine x_bipush C (v := 37) dX12_count_181 (by decide) rfl ?_
        refine x_si C (As := [.int (nI j61), .int 30, .int 37]) (rest := []) (m_in E l a cd hG ws hW ((nI j61)) (30 : Int32) (37 : Int32)) mf_X12_in w_1267 rfl rfl (Nat.le_of_ble_eq_true rfl) ⟨(Nat.le_of_ble_eq_true rfl), (Nat.le_of_ble_eq_true rfl)⟩ ⟨(Nat.le_of_ble_eq_true rfl), (Nat.le_of_ble_eq_true rfl)⟩ dX12_count_183 rfl (fun r101 w102 h100 => ?_)
        obtain ⟨hW103, zb104, x105⟩ := h100
        refine x_ws hW103 ?_
        refine x_if_eq C (tgt := 216) dX12_count_186 (by decide) rfl (fun c106 => ?_) (fun c106 => ?_)
        · skip
          refine x_iconst C (v := (-1)) dX12_count_216 (by decide) rfl ?_
          exact x_zret C hr hlk rfl dX12_count_217 hW
        · skip
          have wi107 := wth_le (a := 30) (b := 37) (j := j61) (x105 c106) (by omega) (by decide) (by decide)
          refine x_aload_n C dX12_count_189 rfl 0 rfl rfl ?_
          refine x_iload_n C dX12_count_190 rfl 1 rfl rfl ?_
          refine x_bipush C (v := 30) dX12_count_191 (by decide) rfl ?_
          refine x_isub C (v := (nI (j61 - 30))) dX12_count_193 (pk_sub (a := j61) (b := 30) (by omega)) rfl ?_
          refine x_vi C (As := [.int (nI (j61 - 30))]) (rest := []) (m_isHen E l a cd hG ws hW ((nI (j61 - 30)))) mf_X12_isHen w_1285 0 k65 rfl rfl rfl (Nat.le_of_ble_eq_true rfl) ⟨(Nat.le_of_ble_eq_true rfl), (Nat.le_of_ble_eq_true rfl)⟩ ⟨(Nat.le_of_ble_eq_true rfl), (Nat.le_of_ble_eq_true rfl)⟩ dX12_count_194 rfl (fun r109 w110 h108 => ?_)
          obtain ⟨hW111, zb112, x113⟩ := h108
          refine x_ws hW111 ?_
          refine x_if_eq C (tgt := 216) dX12_count_197 (by decide) rfl (fun c114 => ?_) (fun c114 => ?_)
          · skip
            refine x_iconst C (v := (-1)) dX12_count_216 (by decide) rfl ?_
            exact x_zret C hr hlk rfl dX12_count_217 hW
          · skip
            have wi115 := wth_le (a := 0) (b := 7) (j := (j61 - 30)) (x113 c114) (by omega) (by decide) (by decide)
            refine x_aload_n C dX12_count_200 rfl 0 rfl rfl ?_
            refine x_get C (ci := 11) (k := 0) 0 k65 rfl in_X12 (by decide) w_1118 rfl dX12_count_201 rfl ?_
            refine x_sipush C (v := 329) dX12_count_204 (by decide) rfl ?_
            refine x_iload_n C dX12_count_207 rfl 1 rfl rfl ?_
            refine x_iadd C (v := (nI (329 + j61))) dX12_count_208 (nI_add 329 j61) rfl ?_
            refine x_bipush C (v := 30) dX12_count_209 (by decide) rfl ?_
            refine x_isub C (v := (nI ((329 + j61) - 30))) dX12_count_211 (pk_sub (a := (329 + j61)) (b := 30) (by omega)) rfl ?_
            obtain ⟨_, k116, f117, pf118, rfl⟩ := hW 1 _ rfl
            refine x_iald C (v := (f117 (nI ((329 + j61) - 30)).toNatClampNeg)) 1 k116 (vp_in_nI (by omega) (by decide)) rfl dX12_count_212 rfl ?_
            refine x_any (fun v119 => ?_)
            refine x_goto C (tgt := 217) dX12_count_213 (by decide) ?_
            exact x_zret C hr hlk rfl dX12_count_217 hW
      · skip
        have wi120 := wth_le (a := 0) (b := 7) (j := (j61 - 20)) (x98 c99) (by omega) (by decide) (by decide)
        refine x_aload_n C dX12_count_164 rfl 0 rfl rfl ?_
        refine x_get C (ci := 11) (k := 0) 0 k65 rfl in_X12 (by decide) w_1118 rfl dX12_count_165 rfl ?_
        refine x_sipush C (v := 321) dX12_count_168 (by decide) rfl ?_
        refine x_iload_n C dX12_count_171 rfl 1 rfl rfl ?_
        refine x_iadd C (v := (nI (321 + j61))) dX12_count_172 (nI_add 321 j61) rfl ?_
        refine x_bipush C (v := 20) dX12_count_173 (by decide) rfl ?_
        refine x_isub C (v := (nI ((321 + j61) - 20))) dX12_count_175 (pk_sub (a := (321 + j61)) (b := 20) (by omega)) rfl ?_
        obtain ⟨_, k121, f122, pf123, rfl⟩ := hW 1 _ rfl
        refine x_iald C (v := (f122 (nI ((321 + j61) - 20)).toNatClampNeg)) 1 k121 (vp_in_nI (by omega) (by decide)) rfl dX12_count_176 rfl ?_
        refine x_any (fun v124 => ?_)
        exact x_zret C hr hlk rfl dX12_count_177 hW
  by_cases s2 : 10 < (p0).toInt
  · refine x_tabOut C (tgt := 142) dX12_count_1 (Or.inr s2) (by decide) ?_
    refine x_iload_n C dX12_count_142 rfl 1 rfl rfl ?_
    refine x_bipush C (v := 20) dX12_count_143 (by decide) rfl ?_
    refine x_bipush C (v := 27) dX12_count_145 (by decide) rfl ?_
    refine x_si C (As := [.int p0, .int 20, .int 27]) (rest := []) (m_in E l a cd hG ws hW p0 (20 : Int32) (27 : Int32)) mf_X12_in w_1267 rfl rfl (Nat.le_of_ble_eq_true rfl) ⟨(Nat.le_of_ble_eq_true rfl), (Nat.le_of_ble_eq_true rfl)⟩ ⟨(Nat.le_of_ble_eq_true rfl), (Nat.le_of_ble_eq_true rfl)⟩ dX12_count_147 rfl (fun r126 w127 h125 => ?_)
    obtain ⟨hW128, zb129, x130⟩ := h125
    refine x_ws hW128 ?_
    refine x_if_eq C (tgt := 178) dX12_count_150 (by decide) rfl (fun c131 => ?_) (fun c131 => ?_)
    · skip
      refine x_iload_n C dX12_count_178 rfl 1 rfl rfl ?_
      refine x_bipush C (v := 30) dX12_count_179 (by decide) rfl ?_
      refine x_bipush C (v := 37) dX12_count_181 (by decide) rfl ?_
      refine x_si C (As := [.int p0, .int 30, .int 37]) (rest := []) (m_in E l a cd hG ws hW p0 (30 : Int32) (37 : Int32)) mf_X12_in w_1267 rfl rfl (Nat.le_of_ble_eq_true rfl) ⟨(Nat.le_of_ble_eq_true rfl), (Nat.le_of_ble_eq_true rfl)⟩ ⟨(Nat.le_of_ble_eq_true rfl), (Nat.le_of_ble_eq_true rfl)⟩ dX12_count_183 rfl (fun r133 w134 h132 => ?_)
      obtain ⟨hW135, zb136, x137⟩ := h132
      refine x_ws hW135 ?_
      refine x_if_eq C (tgt := 216) dX12_count_186 (by decide) rfl (fun c138 => ?_) (fun c138 => ?_)
      · skip
        refine x_iconst C (v := (-1)) dX12_count_216 (by decide) rfl ?_
        exact x_zret C hr hlk rfl dX12_count_217 hW
      · skip
        obtain ⟨j139, hl140, hh141, ej142⟩ := w_nat (a := 30) (b := 37) (by decide) (by decide) (x137 c138)
        subst ej142
        refine x_aload_n C dX12_count_189 rfl 0 rfl rfl ?_
        refine x_iload_n C dX12_count_190 rfl 1 rfl rfl ?_
        refine x_bipush C (v := 30) dX12_count_191 (by decide) rfl ?_
        refine x_isub C (v := (nI (j139 - 30))) dX12_count_193 (pk_sub (a := j139) (b := 30) (by omega)) rfl ?_
        obtain ⟨_, k143, n144, n146, n148, v150, v151, v152, n153, n155, n157, n159, v161, v162, v163, v164, n165, n167, v169, bn145, bn147, bn149, bn154, bn156, bn158, bn160, bn166, bn168, zv170, rfl⟩ := hW 0 _ rfl
        refine x_vi C (As := [.int (nI (j139 - 30))]) (rest := []) (m_isHen E l a cd hG ws hW ((nI (j139 - 30)))) mf_X12_isHen w_1285 0 k143 rfl rfl rfl (Nat.le_of_ble_eq_true rfl) ⟨(Nat.le_of_ble_eq_true rfl), (Nat.le_of_ble_eq_true rfl)⟩ ⟨(Nat.le_of_ble_eq_true rfl), (Nat.le_of_ble_eq_true rfl)⟩ dX12_count_194 rfl (fun r172 w173 h171 => ?_)
        obtain ⟨hW174, zb175, x176⟩ := h171
        refine x_ws hW174 ?_
        refine x_if_eq C (tgt := 216) dX12_count_197 (by decide) rfl (fun c177 => ?_) (fun c177 => ?_)
        · skip
          refine x_iconst C (v := (-1)) dX12_count_216 (by decide) rfl ?_
          exact x_zret C hr hlk rfl dX12_count_217 hW
        · skip
          have wi178 := wth_le (a := 0) (b := 7) (j := (j139 - 30)) (x176 c177) (by omega) (by decide) (by decide)
          refine x_aload_n C dX12_count_200 rfl 0 rfl rfl ?_
          refine x_get C (ci := 11) (k := 0) 0 k143 rfl in_X12 (by decide) w_1118 rfl dX12_count_201 rfl ?_
          refine x_sipush C (v := 329) dX12_count_204 (by decide) rfl ?_
          refine x_iload_n C dX12_count_207 rfl 1 rfl rfl ?_
          refine x_iadd C (v := (nI (329 + j139))) dX12_count_208 (nI_add 329 j139) rfl ?_
          refine x_bipush C (v := 30) dX12_count_209 (by decide) rfl ?_
          refine x_isub C (v := (nI ((329 + j139) - 30))) dX12_count_211 (pk_sub (a := (329 + j139)) (b := 30) (by omega)) rfl ?_
          obtain ⟨_, k179, f180, pf181, rfl⟩ := hW 1 _ rfl
          refine x_iald C (v := (f180 (nI ((329 + j139) - 30)).toNatClampNeg)) 1 k179 (vp_in_nI (by omega) (by decide)) rfl dX12_count_212 rfl ?_
          refine x_any (fun v182 => ?_)
          refine x_goto C (tgt := 217) dX12_count_213 (by decide) ?_
          exact x_zret C hr hlk rfl dX12_count_217 hW
    · skip
      obtain ⟨j183, hl184, hh185, ej186⟩ := w_nat (a := 20) (b := 27) (by decide) (by decide) (x130 c131)
      subst ej186
      refine x_aload_n C dX12_count_153 rfl 0 rfl rfl ?_
      refine x_iload_n C dX12_count_154 rfl 1 rfl rfl ?_
      refine x_bipush C (v := 20) dX12_count_155 (by decide) rfl ?_
      refine x_isub C (v := (nI (j183 - 20))) dX12_count_157 (pk_sub (a := j183) (b := 20) (by omega)) rfl ?_
      obtain ⟨_, k187, n188, n190, n192, v194, v195, v196, n197, n199, n201, n203, v205, v206, v207, v208, n209, n211, v213, bn189, bn191, bn193, bn198, bn200, bn202, bn204, bn210, bn212, zv214, rfl⟩ := hW 0 _ rfl
      refine x_vi C (As := [.int (nI (j183 - 20))]) (rest := []) (m_isHen E l a cd hG ws hW ((nI (j183 - 20)))) mf_X12_isHen w_1285 0 k187 rfl rfl rfl (Nat.le_of_ble_eq_true rfl) ⟨(Nat.le_of_ble_eq_true rfl), (Nat.le_of_ble_eq_true rfl)⟩ ⟨(Nat.le_of_ble_eq_true rfl), (Nat.le_of_ble_eq_true rfl)⟩ dX12_count_158 rfl (fun r216 w217 h215 => ?_)
      obtain ⟨hW218, zb219, x220⟩ := h215
      refine x_ws hW218 ?_
      refine x_if_eq C (tgt := 178) dX12_count_161 (by decide) rfl (fun c221 => ?_) (fun c221 => ?_)
      · skip
        refine x_iload_n C dX12_count_178 rfl 1 rfl rfl ?_
        refine x_bipush C (v := 30) dX12_count_179 (by decide) rfl ?_
        refine x_bipush C (v := 37) dX12_count_181 (by decide) rfl ?_
        refine x_si C (As := [.int (nI j183), .int 30, .int 37]) (rest := []) (m_in E l a cd hG ws hW ((nI j183)) (30 : Int32) (37 : Int32)) mf_X12_in w_1267 rfl rfl (Nat.le_of_ble_eq_true rfl) ⟨(Nat.le_of_ble_eq_true rfl), (Nat.le_of_ble_eq_true rfl)⟩ ⟨(Nat.le_of_ble_eq_true rfl), (Nat.le_of_ble_eq_true rfl)⟩ dX12_count_183 rfl (fun r223 w224 h222 => ?_)
        obtain ⟨hW225, zb226, x227⟩ := h222
        refine x_ws hW225 ?_
        refine x_if_eq C (tgt := 216) dX12_count_186 (by decide) rfl (fun c228 => ?_) (fun c228 => ?_)
        · skip
          refine x_iconst C (v := (-1)) dX12_count_216 (by decide) rfl ?_
          exact x_zret C hr hlk rfl dX12_count_217 hW
        · skip
          have wi229 := wth_le (a := 30) (b := 37) (j := j183) (x227 c228) (by omega) (by decide) (by decide)
          refine x_aload_n C dX12_count_189 rfl 0 rfl rfl ?_
          refine x_iload_n C dX12_count_190 rfl 1 rfl rfl ?_
          refine x_bipush C (v := 30) dX12_count_191 (by decide) rfl ?_
          refine x_isub C (v := (nI (j183 - 30))) dX12_count_193 (pk_sub (a := j183) (b := 30) (by omega)) rfl ?_
          refine x_vi C (As := [.int (nI (j183 - 30))]) (rest := []) (m_isHen E l a cd hG ws hW ((nI (j183 - 30)))) mf_X12_isHen w_1285 0 k187 rfl rfl rfl (Nat.le_of_ble_eq_true rfl) ⟨(Nat.le_of_ble_eq_true rfl), (Nat.le_of_ble_eq_true rfl)⟩ ⟨(Nat.le_of_ble_eq_true rfl), (Nat.le_of_ble_eq_true rfl)⟩ dX12_count_194 rfl (fun r231 w232 h230 => ?_)
          obtain ⟨hW233, zb234, x235⟩ := h230
          refine x_ws hW233 ?_
          refine x_if_eq C (tgt := 216) dX12_count_197 (by decide) rfl (fun c236 => ?_) (fun c236 => ?_)
          · skip
            refine x_iconst C (v := (-1)) dX12_count_216 (by decide) rfl ?_
            exact x_zret C hr hlk rfl dX12_count_217 hW
          · skip
            have wi237 := wth_le (a := 0) (b := 7) (j := (j183 - 30)) (x235 c236) (by omega) (by decide) (by decide)
            refine x_aload_n C dX12_count_200 rfl 0 rfl rfl ?_
            refine x_get C (ci := 11) (k := 0) 0 k187 rfl in_X12 (by decide) w_1118 rfl dX12_count_201 rfl ?_
            refine x_sipush C (v := 329) dX12_count_204 (by decide) rfl ?_
            refine x_iload_n C dX12_count_207 rfl 1 rfl rfl ?_
            refine x_iadd C (v := (nI (329 + j183))) dX12_count_208 (nI_add 329 j183) rfl ?_
            refine x_bipush C (v := 30) dX12_count_209 (by decide) rfl ?_
            refine x_isub C (v := (nI ((329 + j183) - 30))) dX12_count_211 (pk_sub (a := (329 + j183)) (b := 30) (by omega)) rfl ?_
            obtain ⟨_, k238, f239, pf240, rfl⟩ := hW 1 _ rfl
            refine x_iald C (v := (f239 (nI ((329 + j183) - 30)).toNatClampNeg)) 1 k238 (vp_in_nI (by omega) (by decide)) rfl dX12_count_212 rfl ?_
            refine x_any (fun v241 => ?_)
            refine x_goto C (tgt := 217) dX12_count_213 (by decide) ?_
            exact x_zret C hr hlk rfl dX12_count_217 hW
      · skip
        have wi242 := wth_le (a := 0) (b := 7) (j := (j183 - 20)) (x220 c221) (by omega) (by decide) (by decide)
        refine x_aload_n C dX12_count_164 rfl 0 rfl rfl ?_
        refine x_get C (ci := 11) (k := 0) 0 k187 rfl in_X12 (by decide) w_1118 rfl dX12_count_165 rfl ?_
        refine x_sipush C (v := 321) dX12_count_168 (by decide) rfl ?_
        refine x_iload_n C dX12_count_171 rfl 1 rfl rfl ?_
        refine x_iadd C (v := (nI (321 + j183))) dX12_count_172 (nI_add 321 j183) rfl ?_
        refine x_bipush C (v := 20) dX12_count_173 (by decide) rfl ?_
        refine x_isub C (v := (nI ((321 + j183) - 20))) dX12_count_175 (pk_sub (a := (321 + j183)) (b := 20) (by omega)) rfl ?_
        obtain ⟨_, k243, f244, pf245, rfl⟩ := hW 1 _ rfl
        refine x_iald C (v := (f244 (nI ((321 + j183) - 20)).toNatClampNeg)) 1 k243 (vp_in_nI (by omega) (by decide)) rfl dX12_count_176 rfl ?_
        refine x_any (fun v246 => ?_)
        exact x_zret C hr hlk rfl dX12_count_177 hW
  by_cases s247 : p0 = 0
  · refine x_tabIn C (tgt := 60) dX12_count_1 (by rw [s247]; decide) (by rw [s247]; decide) (by rw [s247]; rfl) (by decide) ?_
    refine x_aload_n C dX12_count_60 rfl 0 rfl rfl ?_
    obtain ⟨_, k248, n249, n251, n253, v255, v256, v257, n258, n260, n262, n264, v266, v267, v268, v269, n270, n272, v274, bn250, bn252, bn254, bn259, bn261, bn263, bn265, bn271, bn273, zv275, rfl⟩ := hW 0 _ rfl
    refine x_get C (ci := 11) (k := 0) 0 k248 rfl in_X12 (by decide) w_1118 rfl dX12_count_61 rfl ?_
    refine x_sipush C (v := 379) dX12_count_64 (by decide) rfl ?_
    obtain ⟨_, k276, f277, pf278, rfl⟩ := hW 1 _ rfl
    obtain ⟨n279, hn280, en281⟩ := NB_day pf278
    refine x_ialk C (v := nI n279) 379 (by decide) (by decide) (by decide) 1 k276 en281 dX12_count_67 rfl ?_
    exact x_zret C hr hlk rfl dX12_count_68 hW
  have zs247 := sw_ne (by decide : (0 : Int32).toInt = 0) s247
  by_cases s282 : p0 = 1
  · refine x_tabIn C (tgt := 69) dX12_count_1 (by rw [s282]; decide) (by rw [s282]; decide) (by rw [s282]; rfl) (by decide) ?_
    refine x_aload_n C dX12_count_69 rfl 0 rfl rfl ?_
    obtain ⟨_, k283, n284, n286, n288, v290, v291, v292, n293, n295, n297, n299, v301, v302, v303, v304, n305, n307, v309, bn285, bn287, bn289, bn294, bn296, bn298, bn300, bn306, bn308, zv310, rfl⟩ := hW 0 _ rfl
    refine x_get C (ci := 11) (k := 0) 0 k283 rfl in_X12 (by decide) w_1118 rfl dX12_count_70 rfl ?_
    refine x_sipush C (v := 381) dX12_count_73 (by decide) rfl ?_
    obtain ⟨_, k311, f312, pf313, rfl⟩ := hW 1 _ rfl
    obtain ⟨n314, hn315, en316⟩ := NB_many pf313
    refine x_ialk C (v := nI n314) 381 (by decide) (by decide) (by decide) 1 k311 en316 dX12_count_76 rfl ?_
    exact x_zret C hr hlk rfl dX12_count_77 hW
  have zs282 := sw_ne (by decide : (1 : Int32).toInt = 1) s282
  by_cases s317 : p0 = 2
  · refine x_tabIn C (tgt := 78) dX12_count_1 (by rw [s317]; decide) (by rw [s317]; decide) (by rw [s317]; rfl) (by decide) ?_
    refine x_aload_n C dX12_count_78 rfl 0 rfl rfl ?_
    refine x_iconst C (v := 0) dX12_count_79 (by decide) rfl ?_
    obtain ⟨_, k318, n319, n321, n323, v325, v326, v327, n328, n330, n332, n334, v336, v337, v338, v339, n340, n342, v344, bn320, bn322, bn324, bn329, bn331, bn333, bn335, bn341, bn343, zv345, rfl⟩ := hW 0 _ rfl
    refine x_vi C (As := [.int 0]) (rest := []) (m_howMany E l a cd hG ws hW (0 : Int32)) mf_X12_howMany w_1526 0 k318 rfl rfl rfl (Nat.le_of_ble_eq_true rfl) ⟨(Nat.le_of_ble_eq_true rfl), (Nat.le_of_ble_eq_true rfl)⟩ ⟨(Nat.le_of_ble_eq_true rfl), (Nat.le_of_ble_eq_true rfl)⟩ dX12_count_80 rfl (fun r347 w348 h346 => ?_)
    have hW349 := h346
    refine x_ws hW349 ?_
    exact x_zret C hr hlk rfl dX12_count_83 hW
  have zs317 := sw_ne (by decide : (2 : Int32).toInt = 2) s317
  by_cases s350 : p0 = 3
  · refine x_tabIn C (tgt := 84) dX12_count_1 (by rw [s350]; decide) (by rw [s350]; decide) (by rw [s350]; rfl) (by decide) ?_
    refine x_aload_n C dX12_count_84 rfl 0 rfl rfl ?_
    refine x_iconst C (v := 1) dX12_count_85 (by decide) rfl ?_
    obtain ⟨_, k351, n352, n354, n356, v358, v359, v360, n361, n363, n365, n367, v369, v370, v371, v372, n373, n375, v377, bn353, bn355, bn357, bn362, bn364, bn366, bn368, bn374, bn376, zv378, rfl⟩ := hW 0 _ rfl
    refine x_vi C (As := [.int 1]) (rest := []) (m_howMany E l a cd hG ws hW (1 : Int32)) mf_X12_howMany w_1526 0 k351 rfl rfl rfl (Nat.le_of_ble_eq_true rfl) ⟨(Nat.le_of_ble_eq_true rfl), (Nat.le_of_ble_eq_true rfl)⟩ ⟨(Nat.le_of_ble_eq_true rfl), (Nat.le_of_ble_eq_true rfl)⟩ dX12_count_86 rfl (fun r380 w381 h379 => ?_)
    have hW382 := h379
    refine x_ws hW382 ?_
    exact x_zret C hr hlk rfl dX12_count_89 hW
  have zs350 := sw_ne (by decide : (3 : Int32).toInt = 3) s350
  by_cases s383 : p0 = 4
  · refine x_tabIn C (tgt := 90) dX12_count_1 (by rw [s383]; decide) (by rw [s383]; decide) (by rw [s383]; rfl) (by decide) ?_
    refine x_aload_n C dX12_count_90 rfl 0 rfl rfl ?_
    refine x_iconst C (v := 2) dX12_count_91 (by decide) rfl ?_
    obtain ⟨_, k384, n385, n387, n389, v391, v392, v393, n394, n396, n398, n400, v402, v403, v404, v405, n406, n408, v410, bn386, bn388, bn390, bn395, bn397, bn399, bn401, bn407, bn409, zv411, rfl⟩ := hW 0 _ rfl
    refine x_vi C (As := [.int 2]) (rest := []) (m_howMany E l a cd hG ws hW (2 : Int32)) mf_X12_howMany w_1526 0 k384 rfl rfl rfl (Nat.le_of_ble_eq_true rfl) ⟨(Nat.le_of_ble_eq_true rfl), (Nat.le_of_ble_eq_true rfl)⟩ ⟨(Nat.le_of_ble_eq_true rfl), (Nat.le_of_ble_eq_true rfl)⟩ dX12_count_92 rfl (fun r413 w414 h412 => ?_)
    have hW415 := h412
    refine x_ws hW415 ?_
    exact x_zret C hr hlk rfl dX12_count_95 hW
  have zs383 := sw_ne (by decide : (4 : Int32).toInt = 4) s383
  by_cases s416 : p0 = 5
  · refine x_tabIn C (tgt := 96) dX12_count_1 (by rw [s416]; decide) (by rw [s416]; decide) (by rw [s416]; rfl) (by decide) ?_
    refine x_aload_n C dX12_count_96 rfl 0 rfl rfl ?_
    obtain ⟨_, k417, n418, n420, n422, v424, v425, v426, n427, n429, n431, n433, v435, v436, v437, v438, n439, n441, v443, bn419, bn421, bn423, bn428, bn430, bn432, bn434, bn440, bn442, zv444, rfl⟩ := hW 0 _ rfl
    refine x_get C (ci := 11) (k := 13) 0 k417 rfl in_X12 (by decide) w_1131 rfl dX12_count_97 rfl ?_
    exact x_zret C hr hlk rfl dX12_count_100 hW
  have zs416 := sw_ne (by decide : (5 : Int32).toInt = 5) s416
  by_cases s445 : p0 = 6
  · refine x_tabIn C (tgt := 101) dX12_count_1 (by rw [s445]; decide) (by rw [s445]; decide) (by rw [s445]; rfl) (by decide) ?_
    refine x_aload_n C dX12_count_101 rfl 0 rfl rfl ?_
    obtain ⟨_, k446, n447, n449, n451, v453, v454, v455, n456, n458, n460, n462, v464, v465, v466, v467, n468, n470, v472, bn448, bn450, bn452, bn457, bn459, bn461, bn463, bn469, bn471, zv473, rfl⟩ := hW 0 _ rfl
    refine x_get C (ci := 11) (k := 4) 0 k446 rfl in_X12 (by decide) w_1122 rfl dX12_count_102 rfl ?_
    exact x_zret C hr hlk rfl dX12_count_105 hW
  have zs445 := sw_ne (by decide : (6 : Int32).toInt = 6) s445
  by_cases s474 : p0 = 7
  · refine x_tabIn C (tgt := 106) dX12_count_1 (by rw [s474]; decide) (by rw [s474]; decide) (by rw [s474]; rfl) (by decide) ?_
    refine x_aload_n C dX12_count_106 rfl 0 rfl rfl ?_
    obtain ⟨_, k475, n476, n478, n480, v482, v483, v484, n485, n487, n489, n491, v493, v494, v495, v496, n497, n499, v501, bn477, bn479, bn481, bn486, bn488, bn490, bn492, bn498, bn500, zv502, rfl⟩ := hW 0 _ rfl
    refine x_get C (ci := 11) (k := 0) 0 k475 rfl in_X12 (by decide) w_1118 rfl dX12_count_107 rfl ?_
    refine x_sipush C (v := 380) dX12_count_110 (by decide) rfl ?_
    obtain ⟨_, k503, f504, pf505, rfl⟩ := hW 1 _ rfl
    refine x_iald C (v := (f504 (380 : Int32).toNatClampNeg)) 1 k503 (vp_k (j := 380) (by decide) (by decide) (by decide)) rfl dX12_count_113 rfl ?_
    refine x_any (fun v506 => ?_)
    exact x_zret C hr hlk rfl dX12_count_114 hW
  have zs474 := sw_ne (by decide : (7 : Int32).toInt = 7) s474
  by_cases s507 : p0 = 8
  · refine x_tabIn C (tgt := 115) dX12_count_1 (by rw [s507]; decide) (by rw [s507]; decide) (by rw [s507]; rfl) (by decide) ?_
    refine x_aload_n C dX12_count_115 rfl 0 rfl rfl ?_
    obtain ⟨_, k508, n509, n511, n513, v515, v516, v517, n518, n520, n522, n524, v526, v527, v528, v529, n530, n532, v534, bn510, bn512, bn514, bn519, bn521, bn523, bn525, bn531, bn533, zv535, rfl⟩ := hW 0 _ rfl
    refine x_get C (ci := 11) (k := 0) 0 k508 rfl in_X12 (by decide) w_1118 rfl dX12_count_116 rfl ?_
    refine x_sipush C (v := 320) dX12_count_119 (by decide) rfl ?_
    obtain ⟨_, k536, f537, pf538, rfl⟩ := hW 1 _ rfl
    refine x_iald C (v := (f537 (320 : Int32).toNatClampNeg)) 1 k536 (vp_k (j := 320) (by decide) (by decide) (by decide)) rfl dX12_count_122 rfl ?_
    refine x_any (fun v539 => ?_)
    exact x_zret C hr hlk rfl dX12_count_123 hW
  have zs507 := sw_ne (by decide : (8 : Int32).toInt = 8) s507
  by_cases s540 : p0 = 9
  · refine x_tabIn C (tgt := 124) dX12_count_1 (by rw [s540]; decide) (by rw [s540]; decide) (by rw [s540]; rfl) (by decide) ?_
    refine x_aload_n C dX12_count_124 rfl 0 rfl rfl ?_
    obtain ⟨_, k541, n542, n544, n546, v548, v549, v550, n551, n553, n555, n557, v559, v560, v561, v562, n563, n565, v567, bn543, bn545, bn547, bn552, bn554, bn556, bn558, bn564, bn566, zv568, rfl⟩ := hW 0 _ rfl
    refine x_get C (ci := 11) (k := 0) 0 k541 rfl in_X12 (by decide) w_1118 rfl dX12_count_125 rfl ?_
    refine x_sipush C (v := 337) dX12_count_128 (by decide) rfl ?_
    obtain ⟨_, k569, f570, pf571, rfl⟩ := hW 1 _ rfl
    refine x_iald C (v := (f570 (337 : Int32).toNatClampNeg)) 1 k569 (vp_k (j := 337) (by decide) (by decide) (by decide)) rfl dX12_count_131 rfl ?_
    refine x_any (fun v572 => ?_)
    exact x_zret C hr hlk rfl dX12_count_132 hW
  have zs540 := sw_ne (by decide : (9 : Int32).toInt = 9) s540
  have s573 : p0 = 10 := sw_last (n := 10) (by decide) s1 s2 (by omega)
  refine x_tabIn C (tgt := 133) dX12_count_1 (by rw [s573]; decide) (by rw [s573]; decide) (by rw [s573]; rfl) (by decide) ?_
  refine x_aload_n C dX12_count_133 rfl 0 rfl rfl ?_
  obtain ⟨_, k574, n575, n577, n579, v581, v582, v583, n584, n586, n588, n590, v592, v593, v594, v595, n596, n598, v600, bn576, bn578, bn580, bn585, bn587, bn589, bn591, bn597, bn599, zv601, rfl⟩ := hW 0 _ rfl
  refine x_get C (ci := 11) (k := 0) 0 k574 rfl in_X12 (by decide) w_1118 rfl dX12_count_134 rfl ?_
  refine x_sipush C (v := 378) dX12_count_137 (by decide) rfl ?_
  obtain ⟨_, k602, f603, pf604, rfl⟩ := hW 1 _ rfl
  refine x_iald C (v := (f603 (378 : Int32).toNatClampNeg)) 1 k602 (vp_k (j := 378) (by decide) (by decide) (by decide)) rfl dX12_count_140 rfl ?_
  refine x_any (fun v605 => ?_)
  exact x_zret C hr hlk rfl dX12_count_141 hW
