def hb (x k : Int32) : Prop := (x >>> (k &&& 31)) &&& 1 = 1
def bt (x : Int32) : Nat → Int32
  | 0 => 0
  | k + 1 => bt x k + ((x >>> (nI k &&& 31)) &&& 1)
/-- now after a draw -/
def dwK (E : xE) (a : Nat → Nat) (ws w : va_W) : Prop := ∀ f : Nat → Int32, ws[1]? = some (iA E (a 1) 382 f) → ∃ v : Int32, w[1]? = some (iA E (a 1) 382 (upd f 380 v))
theorem iA_inj {E : xE} {x y n m : Nat} {f g : Nat → Int32} (h : some (iA E x n f) = some (iA E y m g)) : f = g := by
  injection h with h
  injection h with _ h
  injection h with h
  injection h with _ h
  injection h with _ h
  injection h
theorem dX12_in_0 : decode cX12_in 0 = .ok (.iload_n 0, 1) := by decide +kernel
theorem dX12_in_1 : decode cX12_in 1 = .ok (.iload_n 1, 1) := by decide +kernel
theorem dX12_in_2 : decode cX12_in 2 = .ok (.if_icmp .lt 12, 3) := by decide +kernel
theorem dX12_in_5 : decode cX12_in 5 = .ok (.iload_n 0, 1) := by decide +kernel
theorem dX12_in_6 : decode cX12_in 6 = .ok (.iload_n 2, 1) := by decide +kernel
theorem dX12_in_7 : decode cX12_in 7 = .ok (.if_icmp .gt 7, 3) := by decide +kernel
theorem dX12_in_10 : decode cX12_in 10 = .ok (.iconst 1, 1) := by decide +kernel
theorem dX12_in_11 : decode cX12_in 11 = .ok (.goto 4, 3) := by decide +kernel
theorem dX12_in_14 : decode cX12_in 14 = .ok (.iconst 0, 1) := by decide +kernel
theorem dX12_in_15 : decode cX12_in 15 = .ok (.ireturn, 1) := by decide +kernel
set_option maxRecDepth 20000 in
set_option maxHeartbeats 4000000 in
theorem m_in (E : xE) (l : Launch) (a : Nat → Nat) (cd : Cd) (hG : Good cd) (kf : Int32) (jn js jq : Lb) (ws : va_W) (hW : WX (okM E a cd kf jn js jq) ws) (v : Int32) (lo : Int32) (hi : Int32) : xI E l yX12_in cX12_in 3 (some .boolean) 0 [.int v, .int lo, .int hi] ws (fun r w => w = ws ∧ zb r ∧ (¬ r = 0 → wth v lo hi)) := by
  refine xI_start (lv := [(0, .int v), (1, .int lo), (2, .int hi)]) RX12 (by decide) rfl (Nat.le_of_ble_eq_true rfl) rfl (fun p e s m below meth c A C hr hlk => ?_)
  refine x_iload_n C dX12_in_0 rfl 0 rfl rfl ?_
  refine x_iload_n C dX12_in_1 rfl 1 rfl rfl ?_
  refine x_icmp_lt C (tgt := 14) dX12_in_2 (by decide) rfl (fun c1 => ?_) (fun c1 => ?_)
  · skip
    refine x_iconst C (v := 0) dX12_in_14 (by decide) rfl ?_
    exact x_zret C hr hlk rfl dX12_in_15 ⟨rfl, (Or.inl rfl), (fun q => absurd rfl q)⟩
  · skip
    refine x_iload_n C dX12_in_5 rfl 0 rfl rfl ?_
    refine x_iload_n C dX12_in_6 rfl 2 rfl rfl ?_
    refine x_icmp_gt C (tgt := 14) dX12_in_7 (by decide) rfl (fun c2 => ?_) (fun c2 => ?_)
    · skip
      refine x_iconst C (v := 0) dX12_in_14 (by decide) rfl ?_
      exact x_zret C hr hlk rfl dX12_in_15 ⟨rfl, (Or.inl rfl), (fun q => absurd rfl q)⟩
    · skip
      refine x_iconst C (v := 1) dX12_in_10 (by decide) rfl ?_
      refine x_goto C (tgt := 15) dX12_in_11 (by decide) ?_
      exact x_zret C hr hlk rfl dX12_in_15 ⟨rfl, (Or.inr rfl), (fun _ => ⟨c1, c2⟩)⟩
theorem dX12_min_0 : decode cX12_min 0 = .ok (.iload_n 0, 1) := by decide +kernel
theorem dX12_min_1 : decode cX12_min 1 = .ok (.iload_n 1, 1) := by decide +kernel
theorem dX12_min_2 : decode cX12_min 2 = .ok (.if_icmp .ge 7, 3) := by decide +kernel
theorem dX12_min_5 : decode cX12_min 5 = .ok (.iload_n 0, 1) := by decide +kernel
theorem dX12_min_6 : decode cX12_min 6 = .ok (.goto 4, 3) := by decide +kernel
theorem dX12_min_9 : decode cX12_min 9 = .ok (.iload_n 1, 1) := by decide +kernel
theorem dX12_min_10 : decode cX12_min 10 = .ok (.ireturn, 1) := by decide +kernel
set_option maxRecDepth 20000 in
set_option maxHeartbeats 4000000 in
theorem m_min (E : xE) (l : Launch) (a : Nat → Nat) (cd : Cd) (hG : Good cd) (kf : Int32) (jn js jq : Lb) (ws : va_W) (hW : WX (okM E a cd kf jn js jq) ws) (p0 : Int32) (p1 : Int32) : xI E l yX12_min cX12_min 2 (some .int) 0 [.int p0, .int p1] ws (fun r w => w = ws) := by
  refine xI_start (lv := [(0, .int p0), (1, .int p1)]) RX12 (by decide) rfl (Nat.le_of_ble_eq_true rfl) rfl (fun p e s m below meth c A C hr hlk => ?_)
  refine x_iload_n C dX12_min_0 rfl 0 rfl rfl ?_
  refine x_iload_n C dX12_min_1 rfl 1 rfl rfl ?_
  refine x_icmp_ge C (tgt := 9) dX12_min_2 (by decide) rfl (fun c1 => ?_) (fun c1 => ?_)
  · skip
    refine x_iload_n C dX12_min_9 rfl 1 rfl rfl ?_
    exact x_zret C hr hlk rfl dX12_min_10 rfl
  · skip
    refine x_iload_n C dX12_min_5 rfl 0 rfl rfl ?_
    refine x_goto C (tgt := 10) dX12_min_6 (by decide) ?_
    exact x_zret C hr hlk rfl dX12_min_10 rfl
theorem dX12_max_0 : decode cX12_max 0 = .ok (.iload_n 0, 1) := by decide +kernel
theorem dX12_max_1 : decode cX12_max 1 = .ok (.iload_n 1, 1) := by decide +kernel
theorem dX12_max_2 : decode cX12_max 2 = .ok (.if_icmp .le 7, 3) := by decide +kernel
theorem dX12_max_5 : decode cX12_max 5 = .ok (.iload_n 0, 1) := by decide +kernel
theorem dX12_max_6 : decode cX12_max 6 = .ok (.goto 4, 3) := by decide +kernel
theorem dX12_max_9 : decode cX12_max 9 = .ok (.iload_n 1, 1) := by decide +kernel
theorem dX12_max_10 : decode cX12_max 10 = .ok (.ireturn, 1) := by decide +kernel
set_option maxRecDepth 20000 in
set_option maxHeartbeats 4000000 in
theorem m_max (E : xE) (l : Launch) (a : Nat → Nat) (cd : Cd) (hG : Good cd) (kf : Int32) (jn js jq : Lb) (ws : va_W) (hW : WX (okM E a cd kf jn js jq) ws) (p0 : Int32) (p1 : Int32) : xI E l yX12_max cX12_max 2 (some .int) 0 [.int p0, .int p1] ws (fun r w => w = ws) := by
  refine xI_start (lv := [(0, .int p0), (1, .int p1)]) RX12 (by decide) rfl (Nat.le_of_ble_eq_true rfl) rfl (fun p e s m below meth c A C hr hlk => ?_)
  refine x_iload_n C dX12_max_0 rfl 0 rfl rfl ?_
  refine x_iload_n C dX12_max_1 rfl 1 rfl rfl ?_
  refine x_icmp_le C (tgt := 9) dX12_max_2 (by decide) rfl (fun c1 => ?_) (fun c1 => ?_)
  · skip
    refine x_iload_n C dX12_max_9 rfl 1 rfl rfl ?_
    exact x_zret C hr hlk rfl dX12_max_10 rfl
  · skip
    refine x_iload_n C dX12_max_5 rfl 0 rfl rfl ?_
    refine x_goto C (tgt := 10) dX12_max_6 (by decide) ?_
    exact x_zret C hr hlk rfl dX12_max_10 rfl
theorem dX12_has_0 : decode cX12_has 0 = .ok (.iload_n 0, 1) := by decide +kernel
theorem dX12_has_1 : decode cX12_has 1 = .ok (.iload_n 1, 1) := by decide +kernel
theorem dX12_has_2 : decode cX12_has 2 = .ok (.ishr, 1) := by decide +kernel
theorem dX12_has_3 : decode cX12_has 3 = .ok (.iconst 1, 1) := by decide +kernel
theorem dX12_has_4 : decode cX12_has 4 = .ok (.iand, 1) := by decide +kernel
theorem dX12_has_5 : decode cX12_has 5 = .ok (.iconst 1, 1) := by decide +kernel
theorem dX12_has_6 : decode cX12_has 6 = .ok (.if_icmp .ne 7, 3) := by decide +kernel
theorem dX12_has_9 : decode cX12_has 9 = .ok (.iconst 1, 1) := by decide +kernel
theorem dX12_has_10 : decode cX12_has 10 = .ok (.goto 4, 3) := by decide +kernel
theorem dX12_has_13 : decode cX12_has 13 = .ok (.iconst 0, 1) := by decide +kernel
theorem dX12_has_14 : decode cX12_has 14 = .ok (.ireturn, 1) := by decide +kernel
set_option maxRecDepth 20000 in
set_option maxHeartbeats 4000000 in
theorem m_has (E : xE) (l : Launch) (a : Nat → Nat) (cd : Cd) (hG : Good cd) (kf : Int32) (jn js jq : Lb) (ws : va_W) (hW : WX (okM E a cd kf jn js jq) ws) (p0 : Int32) (p1 : Int32) : xI E l yX12_has cX12_has 2 (some .boolean) 0 [.int p0, .int p1] ws (fun r w => w = ws ∧ zb r ∧ (¬ r = 0 ↔ hb p0 p1)) := by
  refine xI_start (lv := [(0, .int p0), (1, .int p1)]) RX12 (by decide) rfl (Nat.le_of_ble_eq_true rfl) rfl (fun p e s m below meth c A C hr hlk => ?_)
  refine x_iload_n C dX12_has_0 rfl 0 rfl rfl ?_
  refine x_iload_n C dX12_has_1 rfl 1 rfl rfl ?_
  refine x_ishr C (v := (p0 >>> (p1 &&& 31))) dX12_has_2 rfl rfl ?_
  refine x_iconst C (v := 1) dX12_has_3 (by decide) rfl ?_
  refine x_iand C (v := ((p0 >>> (p1 &&& 31)) &&& (1 : Int32))) dX12_has_4 rfl rfl ?_
  refine x_iconst C (v := 1) dX12_has_5 (by decide) rfl ?_
  refine x_icmp_ne C (tgt := 13) dX12_has_6 (by decide) rfl (fun c1 => ?_) (fun c1 => ?_)
  · skip
    refine x_iconst C (v := 0) dX12_has_13 (by decide) rfl ?_
    exact x_zret C hr hlk rfl dX12_has_14 ⟨rfl, (Or.inl rfl), ⟨fun q => absurd rfl q, fun q => absurd q c1⟩⟩
  · skip
    refine x_iconst C (v := 1) dX12_has_9 (by decide) rfl ?_
    refine x_goto C (tgt := 14) dX12_has_10 (by decide) ?_
    exact x_zret C hr hlk rfl dX12_has_14 ⟨rfl, (Or.inr rfl), ⟨fun _ => c1, fun _ => (by decide)⟩⟩
theorem dX12_bits_0 : decode cX12_bits 0 = .ok (.iconst 0, 1) := by decide +kernel
theorem dX12_bits_1 : decode cX12_bits 1 = .ok (.istore_n 1, 1) := by decide +kernel
theorem dX12_bits_2 : decode cX12_bits 2 = .ok (.iconst 0, 1) := by decide +kernel
theorem dX12_bits_3 : decode cX12_bits 3 = .ok (.istore_n 2, 1) := by decide +kernel
theorem dX12_bits_4 : decode cX12_bits 4 = .ok (.iload_n 2, 1) := by decide +kernel
theorem dX12_bits_5 : decode cX12_bits 5 = .ok (.bipush 12, 2) := by decide +kernel
theorem dX12_bits_7 : decode cX12_bits 7 = .ok (.if_icmp .ge 17, 3) := by decide +kernel
theorem dX12_bits_10 : decode cX12_bits 10 = .ok (.iload_n 1, 1) := by decide +kernel
theorem dX12_bits_11 : decode cX12_bits 11 = .ok (.iload_n 0, 1) := by decide +kernel
theorem dX12_bits_12 : decode cX12_bits 12 = .ok (.iload_n 2, 1) := by decide +kernel
theorem dX12_bits_13 : decode cX12_bits 13 = .ok (.ishr, 1) := by decide +kernel
theorem dX12_bits_14 : decode cX12_bits 14 = .ok (.iconst 1, 1) := by decide +kernel
theorem dX12_bits_15 : decode cX12_bits 15 = .ok (.iand, 1) := by decide +kernel
theorem dX12_bits_16 : decode cX12_bits 16 = .ok (.iadd, 1) := by decide +kernel
theorem dX12_bits_17 : decode cX12_bits 17 = .ok (.istore_n 1, 1) := by decide +kernel
theorem dX12_bits_18 : decode cX12_bits 18 = .ok (.iinc 2 1, 3) := by decide +kernel
theorem dX12_bits_21 : decode cX12_bits 21 = .ok (.goto (-17), 3) := by decide +kernel
theorem dX12_bits_24 : decode cX12_bits 24 = .ok (.iload_n 1, 1) := by decide +kernel
theorem dX12_bits_25 : decode cX12_bits 25 = .ok (.ireturn, 1) := by decide +kernel
set_option maxRecDepth 20000 in
set_option maxHeartbeats 4000000 in
theorem m_bits (E : xE) (l : Launch) (a : Nat → Nat) (cd : Cd) (hG : Good cd) (kf : Int32) (jn js jq : Lb) (ws : va_W) (hW : WX (okM E a cd kf jn js jq) ws) (p0 : Int32) : xI E l yX12_bits cX12_bits 3 (some .int) 0 [.int p0] ws (fun r w => w = ws ∧ (r = bt p0 12)) := by
  refine xI_start (lv := [(0, .int p0)]) RX12 (by decide) rfl (Nat.le_of_ble_eq_true rfl) rfl (fun p e s m below meth c A C hr hlk => ?_)
  refine x_iconst C (v := 0) dX12_bits_0 (by decide) rfl ?_
  refine x_istore_n C (lv' := [(1, .int 0), (0, .int p0)]) dX12_bits_1 rfl (by decide) rfl rfl ?_
  refine x_iconst C (v := 0) dX12_bits_2 (by decide) rfl ?_
  refine x_istore_n C (lv' := [(2, .int 0), (1, .int 0), (0, .int p0)]) dX12_bits_3 rfl (by decide) rfl rfl ?_
  have loop4 : ∀ (fu4 : Nat) (z4_1 : Int32) (k : Nat), True → 12 - k < fu4 → k ≤ 12 → z4_1 = bt p0 k → X E p l e (xRm 0 0 0) s m ([.int p0] : List Value).toArray below meth c A 3 0 0 (MQ below (va_Qi (fun r w => w = ws ∧ (r = bt p0 12)) (xB E A) A) ([.int p0] : List Value).toArray s 0 0 A) ws 4 [(0, .int p0), (1, .int z4_1), (2, .int (nI k))] [] := by
    intro fu4
    induction fu4 with
    | zero => intro z4_1 k _ q; omega
    | succ fu4 ih4 =>
      intro z4_1 k _ me4 iv4_0 iv4_1
      refine x_iload_n C dX12_bits_4 rfl 2 rfl rfl ?_
      refine x_bipush C (v := 12) dX12_bits_5 (by decide) rfl ?_
      refine x_icmp_ge C (tgt := 24) dX12_bits_7 (by decide) rfl (fun c1 => ?_) (fun c1 => ?_)
      · skip
        have nf2 := nI_le' (a := 12) (b := k) c1 (by omega) (by omega)
        refine x_iload_n C dX12_bits_24 rfl 1 rfl rfl ?_
        exact x_zret C hr hlk rfl dX12_bits_25 ⟨rfl, (iv4_1.trans (congrArg (bt p0) (by omega)))⟩
      · skip
        have nf3 := nI_nle' (a := 12) (b := k) c1 (by omega) (by omega)
        refine x_iload_n C dX12_bits_10 rfl 1 rfl rfl ?_
        refine x_iload_n C dX12_bits_11 rfl 0 rfl rfl ?_
        refine x_iload_n C dX12_bits_12 rfl 2 rfl rfl ?_
        refine x_ishr C (v := (p0 >>> ((nI k) &&& 31))) dX12_bits_13 rfl rfl ?_
        refine x_iconst C (v := 1) dX12_bits_14 (by decide) rfl ?_
        refine x_iand C (v := ((p0 >>> ((nI k) &&& 31)) &&& (1 : Int32))) dX12_bits_15 rfl rfl ?_
        refine x_iadd C (v := (z4_1 + ((p0 >>> ((nI k) &&& 31)) &&& (1 : Int32)))) dX12_bits_16 rfl rfl ?_
        refine x_istore_n C (lv' := [(1, .int (z4_1 + ((p0 >>> ((nI k) &&& 31)) &&& (1 : Int32)))), (0, .int p0), (2, .int (nI k))]) dX12_bits_17 rfl (by decide) rfl rfl ?_
        refine x_iinc C (v := (nI (k + 1))) (lv' := [(2, .int (nI (k + 1))), (1, .int (z4_1 + ((p0 >>> ((nI k) &&& 31)) &&& (1 : Int32)))), (0, .int p0)]) dX12_bits_18 2 rfl (nI_add k 1) (by decide) rfl rfl ?_
        refine x_goto C (tgt := 4) dX12_bits_21 (by decide) ?_
        refine x_lv (lv1 := [(0, .int p0), (1, .int (z4_1 + ((p0 >>> ((nI k) &&& 31)) &&& (1 : Int32)))), (2, .int (nI (k + 1)))]) [2, 1, 0] rfl ?_
        exact ih4 ((z4_1 + ((p0 >>> ((nI k) &&& 31)) &&& (1 : Int32)))) (k + 1) trivial (by omega) (by omega) (by rw [iv4_1]; rfl)
  refine x_lv (lv1 := [(0, .int p0), (1, .int 0), (2, .int 0)]) [2, 1, 0] rfl ?_
  exact loop4 _ (0 : Int32) 0 trivial (Nat.lt_succ_self _) (by omega) rfl
theorem dX12_isPerson_0 : decode cX12_isPerson 0 = .ok (.iload_n 1, 1) := by decide +kernel
theorem dX12_isPerson_1 : decode cX12_isPerson 1 = .ok (.ifCond .lt 28, 3) := by decide +kernel
theorem dX12_isPerson_4 : decode cX12_isPerson 4 = .ok (.iload_n 1, 1) := by decide +kernel
theorem dX12_isPerson_5 : decode cX12_isPerson 5 = .ok (.bipush 8, 2) := by decide +kernel
theorem dX12_isPerson_7 : decode cX12_isPerson 7 = .ok (.if_icmp .ge 22, 3) := by decide +kernel
theorem dX12_isPerson_10 : decode cX12_isPerson 10 = .ok (.aload_n 0, 1) := by decide +kernel
theorem dX12_isPerson_11 : decode cX12_isPerson 11 = .ok (.getfield 7, 3) := by decide +kernel
theorem dX12_isPerson_14 : decode cX12_isPerson 14 = .ok (.sipush 320, 3) := by decide +kernel
theorem dX12_isPerson_17 : decode cX12_isPerson 17 = .ok (.iaload, 1) := by decide +kernel
theorem dX12_isPerson_18 : decode cX12_isPerson 18 = .ok (.iload_n 1, 1) := by decide +kernel
theorem dX12_isPerson_19 : decode cX12_isPerson 19 = .ok (.invokestatic 101, 3) := by decide +kernel
theorem dX12_isPerson_22 : decode cX12_isPerson 22 = .ok (.ifCond .eq 7, 3) := by decide +kernel
theorem dX12_isPerson_25 : decode cX12_isPerson 25 = .ok (.iconst 1, 1) := by decide +kernel
theorem dX12_isPerson_26 : decode cX12_isPerson 26 = .ok (.goto 4, 3) := by decide +kernel
theorem dX12_isPerson_29 : decode cX12_isPerson 29 = .ok (.iconst 0, 1) := by decide +kernel
theorem dX12_isPerson_30 : decode cX12_isPerson 30 = .ok (.ireturn, 1) := by decide +kernel
set_option maxRecDepth 20000 in
set_option maxHeartbeats 4000000 in
theorem m_isPerson (E : xE) (l : Launch) (a : Nat → Nat) (cd : Cd) (hG : Good cd) (kf : Int32) (jn js jq : Lb) (ws : va_W) (hW : WX (okM E a cd kf jn js jq) ws) (p0 : Int32) : xI E l yX12_isPerson cX12_isPerson 2 (some .boolean) 1 [.ref (a 0), .int p0] ws (fun r w => w = ws ∧ zb r ∧ (¬ r = 0 → wth p0 0 7)) := by
  refine xI_start (lv := [(0, .ref (a 0)), (1, .int p0)]) RX12 (by decide) rfl (Nat.le_of_ble_eq_true rfl) rfl (fun p e s m below meth c A C hr hlk => ?_)
  refine x_iload_n C dX12_isPerson_0 rfl 1 rfl rfl ?_
  refine x_if_lt C (tgt := 29) dX12_isPerson_1 (by decide) rfl (fun c1 => ?_) (fun c1 => ?_)
  · skip
    refine x_iconst C (v := 0) dX12_isPerson_29 (by decide) rfl ?_
    exact x_zret C hr hlk rfl dX12_isPerson_30 ⟨rfl, (Or.inl rfl), (fun q => absurd rfl q)⟩
  · skip
    obtain ⟨j2, hj3, ej4⟩ := nI_of c1
    subst ej4
    refine x_iload_n C dX12_isPerson_4 rfl 1 rfl rfl ?_
    refine x_bipush C (v := 8) dX12_isPerson_5 (by decide) rfl ?_
    refine x_icmp_ge C (tgt := 29) dX12_isPerson_7 (by decide) rfl (fun c5 => ?_) (fun c5 => ?_)
    · skip
      have nf6 := nI_le' (a := 8) (b := j2) c5 (by omega) (by omega)
      refine x_iconst C (v := 0) dX12_isPerson_29 (by decide) rfl ?_
      exact x_zret C hr hlk rfl dX12_isPerson_30 ⟨rfl, (Or.inl rfl), (fun q => absurd rfl q)⟩
    · skip
      have nf7 := nI_nle' (a := 8) (b := j2) c5 (by omega) (by omega)
      refine x_aload_n C dX12_isPerson_10 rfl 0 rfl rfl ?_
      obtain ⟨_, k8, n9, n11, n13, v15, v16, v17, n18, n20, n22, n24, v26, v27, v28, v29, n30, n32, bn10, bn12, bn14, bn19, bn21, bn23, bn25, bn31, bn33, rfl⟩ := hW 0 _ rfl
      refine x_get C (ci := 11) (k := 0) 0 k8 rfl in_X12 (by decide) w_1118 rfl dX12_isPerson_11 rfl ?_
      refine x_sipush C (v := 320) dX12_isPerson_14 (by decide) rfl ?_
      obtain ⟨_, k34, f35, pf36, rfl⟩ := hW 1 _ rfl
      refine x_iald C (v := (f35 (320 : Int32).toNatClampNeg)) 1 k34 (vp_k (j := 320) (by decide) (by decide) (by decide)) rfl dX12_isPerson_17 rfl ?_
      refine x_any (fun v37 => ?_)
      refine x_iload_n C dX12_isPerson_18 rfl 1 rfl rfl ?_
      refine x_si C (As := [.int v37, .int (nI j2)]) (rest := []) (m_has E l a cd hG kf jn js jq ws hW v37 ((nI j2))) mf_X12_has w_1274 rfl rfl (Nat.le_of_ble_eq_true rfl) ⟨(Nat.le_of_ble_eq_true rfl), (Nat.le_of_ble_eq_true rfl)⟩ ⟨(Nat.le_of_ble_eq_true rfl), (Nat.le_of_ble_eq_true rfl)⟩ dX12_isPerson_19 rfl (fun r39 w40 h38 => ?_)
      obtain ⟨hW41, zb42, x43⟩ := h38
      refine x_ws hW41 ?_
      refine x_if_eq C (tgt := 29) dX12_isPerson_22 (by decide) rfl (fun c44 => ?_) (fun c44 => ?_)
      · skip
        refine x_iconst C (v := 0) dX12_isPerson_29 (by decide) rfl ?_
        exact x_zret C hr hlk rfl dX12_isPerson_30 ⟨rfl, (Or.inl rfl), (fun q => absurd rfl q)⟩
      · skip
        refine x_iconst C (v := 1) dX12_isPerson_25 (by decide) rfl ?_
        refine x_goto C (tgt := 30) dX12_isPerson_26 (by decide) ?_
        exact x_zret C hr hlk rfl dX12_isPerson_30 ⟨rfl, (Or.inr rfl), (fun _ => wth_n (a := 0) (b := 7) (by omega) (by omega) (by decide))⟩
theorem dX12_isHen_0 : decode cX12_isHen 0 = .ok (.iload_n 1, 1) := by decide +kernel
theorem dX12_isHen_1 : decode cX12_isHen 1 = .ok (.ifCond .lt 28, 3) := by decide +kernel
theorem dX12_isHen_4 : decode cX12_isHen 4 = .ok (.iload_n 1, 1) := by decide +kernel
theorem dX12_isHen_5 : decode cX12_isHen 5 = .ok (.bipush 8, 2) := by decide +kernel
theorem dX12_isHen_7 : decode cX12_isHen 7 = .ok (.if_icmp .ge 22, 3) := by decide +kernel
theorem dX12_isHen_10 : decode cX12_isHen 10 = .ok (.aload_n 0, 1) := by decide +kernel
theorem dX12_isHen_11 : decode cX12_isHen 11 = .ok (.getfield 7, 3) := by decide +kernel
theorem dX12_isHen_14 : decode cX12_isHen 14 = .ok (.sipush 337, 3) := by decide +kernel
theorem dX12_isHen_17 : decode cX12_isHen 17 = .ok (.iaload, 1) := by decide +kernel
theorem dX12_isHen_18 : decode cX12_isHen 18 = .ok (.iload_n 1, 1) := by decide +kernel
theorem dX12_isHen_19 : decode cX12_isHen 19 = .ok (.invokestatic 101, 3) := by decide +kernel
theorem dX12_isHen_22 : decode cX12_isHen 22 = .ok (.ifCond .eq 7, 3) := by decide +kernel
theorem dX12_isHen_25 : decode cX12_isHen 25 = .ok (.iconst 1, 1) := by decide +kernel
theorem dX12_isHen_26 : decode cX12_isHen 26 = .ok (.goto 4, 3) := by decide +kernel
theorem dX12_isHen_29 : decode cX12_isHen 29 = .ok (.iconst 0, 1) := by decide +kernel
theorem dX12_isHen_30 : decode cX12_isHen 30 = .ok (.ireturn, 1) := by decide +kernel
set_option maxRecDepth 20000 in
set_option maxHeartbeats 4000000 in
theorem m_isHen (E : xE) (l : Launch) (a : Nat → Nat) (cd : Cd) (hG : Good cd) (kf : Int32) (jn js jq : Lb) (ws : va_W) (hW : WX (okM E a cd kf jn js jq) ws) (p0 : Int32) : xI E l yX12_isHen cX12_isHen 2 (some .boolean) 1 [.ref (a 0), .int p0] ws (fun r w => w = ws ∧ zb r ∧ (¬ r = 0 → wth p0 0 7)) := by
  refine xI_start (lv := [(0, .ref (a 0)), (1, .int p0)]) RX12 (by decide) rfl (Nat.le_of_ble_eq_true rfl) rfl (fun p e s m below meth c A C hr hlk => ?_)
  refine x_iload_n C dX12_isHen_0 rfl 1 rfl rfl ?_
  refine x_if_lt C (tgt := 29) dX12_isHen_1 (by decide) rfl (fun c1 => ?_) (fun c1 => ?_)
  · skip
    refine x_iconst C (v := 0) dX12_isHen_29 (by decide) rfl ?_
    exact x_zret C hr hlk rfl dX12_isHen_30 ⟨rfl, (Or.inl rfl), (fun q => absurd rfl q)⟩
  · skip
    obtain ⟨j2, hj3, ej4⟩ := nI_of c1
    subst ej4
    refine x_iload_n C dX12_isHen_4 rfl 1 rfl rfl ?_
    refine x_bipush C (v := 8) dX12_isHen_5 (by decide) rfl ?_
    refine x_icmp_ge C (tgt := 29) dX12_isHen_7 (by decide) rfl (fun c5 => ?_) (fun c5 => ?_)
    · skip
      have nf6 := nI_le' (a := 8) (b := j2) c5 (by omega) (by omega)
      refine x_iconst C (v := 0) dX12_isHen_29 (by decide) rfl ?_
      exact x_zret C hr hlk rfl dX12_isHen_30 ⟨rfl, (Or.inl rfl), (fun q => absurd rfl q)⟩
    · skip
      have nf7 := nI_nle' (a := 8) (b := j2) c5 (by omega) (by omega)
      refine x_aload_n C dX12_isHen_10 rfl 0 rfl rfl ?_
      obtain ⟨_, k8, n9, n11, n13, v15, v16, v17, n18, n20, n22, n24, v26, v27, v28, v29, n30, n32, bn10, bn12, bn14, bn19, bn21, bn23, bn25, bn31, bn33, rfl⟩ := hW 0 _ rfl
      refine x_get C (ci := 11) (k := 0) 0 k8 rfl in_X12 (by decide) w_1118 rfl dX12_isHen_11 rfl ?_
      refine x_sipush C (v := 337) dX12_isHen_14 (by decide) rfl ?_
      obtain ⟨_, k34, f35, pf36, rfl⟩ := hW 1 _ rfl
      refine x_iald C (v := (f35 (337 : Int32).toNatClampNeg)) 1 k34 (vp_k (j := 337) (by decide) (by decide) (by decide)) rfl dX12_isHen_17 rfl ?_
      refine x_any (fun v37 => ?_)
      refine x_iload_n C dX12_isHen_18 rfl 1 rfl rfl ?_
      refine x_si C (As := [.int v37, .int (nI j2)]) (rest := []) (m_has E l a cd hG kf jn js jq ws hW v37 ((nI j2))) mf_X12_has w_1274 rfl rfl (Nat.le_of_ble_eq_true rfl) ⟨(Nat.le_of_ble_eq_true rfl), (Nat.le_of_ble_eq_true rfl)⟩ ⟨(Nat.le_of_ble_eq_true rfl), (Nat.le_of_ble_eq_true rfl)⟩ dX12_isHen_19 rfl (fun r39 w40 h38 => ?_)
      obtain ⟨hW41, zb42, x43⟩ := h38
      refine x_ws hW41 ?_
      refine x_if_eq C (tgt := 29) dX12_isHen_22 (by decide) rfl (fun c44 => ?_) (fun c44 => ?_)
      · skip
        refine x_iconst C (v := 0) dX12_isHen_29 (by decide) rfl ?_
        exact x_zret C hr hlk rfl dX12_isHen_30 ⟨rfl, (Or.inl rfl), (fun q => absurd rfl q)⟩
      · skip
        refine x_iconst C (v := 1) dX12_isHen_25 (by decide) rfl ?_
        refine x_goto C (tgt := 30) dX12_isHen_26 (by decide) ?_
        exact x_zret C hr hlk rfl dX12_isHen_30 ⟨rfl, (Or.inr rfl), (fun _ => wth_n (a := 0) (b := 7) (by omega) (by omega) (by decide))⟩
theorem dX12_isWork_0 : decode cX12_isWork 0 = .ok (.iload_n 1, 1) := by decide +kernel
theorem dX12_isWork_1 : decode cX12_isWork 1 = .ok (.ifCond .lt 28, 3) := by decide +kernel
theorem dX12_isWork_4 : decode cX12_isWork 4 = .ok (.iload_n 1, 1) := by decide +kernel
theorem dX12_isWork_5 : decode cX12_isWork 5 = .ok (.bipush 8, 2) := by decide +kernel
theorem dX12_isWork_7 : decode cX12_isWork 7 = .ok (.if_icmp .ge 22, 3) := by decide +kernel
theorem dX12_isWork_10 : decode cX12_isWork 10 = .ok (.aload_n 0, 1) := by decide +kernel
theorem dX12_isWork_11 : decode cX12_isWork 11 = .ok (.getfield 7, 3) := by decide +kernel
theorem dX12_isWork_14 : decode cX12_isWork 14 = .ok (.sipush 378, 3) := by decide +kernel
theorem dX12_isWork_17 : decode cX12_isWork 17 = .ok (.iaload, 1) := by decide +kernel
theorem dX12_isWork_18 : decode cX12_isWork 18 = .ok (.iload_n 1, 1) := by decide +kernel
theorem dX12_isWork_19 : decode cX12_isWork 19 = .ok (.invokestatic 101, 3) := by decide +kernel
theorem dX12_isWork_22 : decode cX12_isWork 22 = .ok (.ifCond .eq 7, 3) := by decide +kernel
theorem dX12_isWork_25 : decode cX12_isWork 25 = .ok (.iconst 1, 1) := by decide +kernel
theorem dX12_isWork_26 : decode cX12_isWork 26 = .ok (.goto 4, 3) := by decide +kernel
theorem dX12_isWork_29 : decode cX12_isWork 29 = .ok (.iconst 0, 1) := by decide +kernel
theorem dX12_isWork_30 : decode cX12_isWork 30 = .ok (.ireturn, 1) := by decide +kernel
set_option maxRecDepth 20000 in
set_option maxHeartbeats 4000000 in
theorem m_isWork (E : xE) (l : Launch) (a : Nat → Nat) (cd : Cd) (hG : Good cd) (kf : Int32) (jn js jq : Lb) (ws : va_W) (hW : WX (okM E a cd kf jn js jq) ws) (p0 : Int32) : xI E l yX12_isWork cX12_isWork 2 (some .boolean) 1 [.ref (a 0), .int p0] ws (fun r w => w = ws ∧ zb r ∧ (¬ r = 0 → wth p0 0 7)) := by
  refine xI_start (lv := [(0, .ref (a 0)), (1, .int p0)]) RX12 (by decide) rfl (Nat.le_of_ble_eq_true rfl) rfl (fun p e s m below meth c A C hr hlk => ?_)
  refine x_iload_n C dX12_isWork_0 rfl 1 rfl rfl ?_
  refine x_if_lt C (tgt := 29) dX12_isWork_1 (by decide) rfl (fun c1 => ?_) (fun c1 => ?_)
  · skip
    refine x_iconst C (v := 0) dX12_isWork_29 (by decide) rfl ?_
    exact x_zret C hr hlk rfl dX12_isWork_30 ⟨rfl, (Or.inl rfl), (fun q => absurd rfl q)⟩
  · skip
    obtain ⟨j2, hj3, ej4⟩ := nI_of c1
    subst ej4
    refine x_iload_n C dX12_isWork_4 rfl 1 rfl rfl ?_
    refine x_bipush C (v := 8) dX12_isWork_5 (by decide) rfl ?_
    refine x_icmp_ge C (tgt := 29) dX12_isWork_7 (by decide) rfl (fun c5 => ?_) (fun c5 => ?_)
    · skip
      have nf6 := nI_le' (a := 8) (b := j2) c5 (by omega) (by omega)
      refine x_iconst C (v := 0) dX12_isWork_29 (by decide) rfl ?_
      exact x_zret C hr hlk rfl dX12_isWork_30 ⟨rfl, (Or.inl rfl), (fun q => absurd rfl q)⟩
    · skip
      have nf7 := nI_nle' (a := 8) (b := j2) c5 (by omega) (by omega)
      refine x_aload_n C dX12_isWork_10 rfl 0 rfl rfl ?_
      obtain ⟨_, k8, n9, n11, n13, v15, v16, v17, n18, n20, n22, n24, v26, v27, v28, v29, n30, n32, bn10, bn12, bn14, bn19, bn21, bn23, bn25, bn31, bn33, rfl⟩ := hW 0 _ rfl
      refine x_get C (ci := 11) (k := 0) 0 k8 rfl in_X12 (by decide) w_1118 rfl dX12_isWork_11 rfl ?_
      refine x_sipush C (v := 378) dX12_isWork_14 (by decide) rfl ?_
      obtain ⟨_, k34, f35, pf36, rfl⟩ := hW 1 _ rfl
      refine x_iald C (v := (f35 (378 : Int32).toNatClampNeg)) 1 k34 (vp_k (j := 378) (by decide) (by decide) (by decide)) rfl dX12_isWork_17 rfl ?_
      refine x_any (fun v37 => ?_)
      refine x_iload_n C dX12_isWork_18 rfl 1 rfl rfl ?_
      refine x_si C (As := [.int v37, .int (nI j2)]) (rest := []) (m_has E l a cd hG kf jn js jq ws hW v37 ((nI j2))) mf_X12_has w_1274 rfl rfl (Nat.le_of_ble_eq_true rfl) ⟨(Nat.le_of_ble_eq_true rfl), (Nat.le_of_ble_eq_true rfl)⟩ ⟨(Nat.le_of_ble_eq_true rfl), (Nat.le_of_ble_eq_true rfl)⟩ dX12_isWork_19 rfl (fun r39 w40 h38 => ?_)
      obtain ⟨hW41, zb42, x43⟩ := h38
      refine x_ws hW41 ?_
      refine x_if_eq C (tgt := 29) dX12_isWork_22 (by decide) rfl (fun c44 => ?_) (fun c44 => ?_)
      · skip
        refine x_iconst C (v := 0) dX12_isWork_29 (by decide) rfl ?_
        exact x_zret C hr hlk rfl dX12_isWork_30 ⟨rfl, (Or.inl rfl), (fun q => absurd rfl q)⟩
      · skip
        refine x_iconst C (v := 1) dX12_isWork_25 (by decide) rfl ?_
        refine x_goto C (tgt := 30) dX12_isWork_26 (by decide) ?_
        exact x_zret C hr hlk rfl dX12_isWork_30 ⟨rfl, (Or.inr rfl), (fun _ => wth_n (a := 0) (b := 7) (by omega) (by omega) (by decide))⟩
theorem dX12_isEgg_0 : decode cX12_isEgg 0 = .ok (.iload_n 1, 1) := by decide +kernel
theorem dX12_isEgg_1 : decode cX12_isEgg 1 = .ok (.ifCond .lt 19, 3) := by decide +kernel
theorem dX12_isEgg_4 : decode cX12_isEgg 4 = .ok (.iload_n 1, 1) := by decide +kernel
theorem dX12_isEgg_5 : decode cX12_isEgg 5 = .ok (.aload_n 0, 1) := by decide +kernel
theorem dX12_isEgg_6 : decode cX12_isEgg 6 = .ok (.getfield 7, 3) := by decide +kernel
theorem dX12_isEgg_9 : decode cX12_isEgg 9 = .ok (.sipush 381, 3) := by decide +kernel
theorem dX12_isEgg_12 : decode cX12_isEgg 12 = .ok (.iaload, 1) := by decide +kernel
theorem dX12_isEgg_13 : decode cX12_isEgg 13 = .ok (.if_icmp .ge 7, 3) := by decide +kernel
theorem dX12_isEgg_16 : decode cX12_isEgg 16 = .ok (.iconst 1, 1) := by decide +kernel
theorem dX12_isEgg_17 : decode cX12_isEgg 17 = .ok (.goto 4, 3) := by decide +kernel
theorem dX12_isEgg_20 : decode cX12_isEgg 20 = .ok (.iconst 0, 1) := by decide +kernel
theorem dX12_isEgg_21 : decode cX12_isEgg 21 = .ok (.ireturn, 1) := by decide +kernel
set_option maxRecDepth 20000 in
set_option maxHeartbeats 4000000 in
theorem m_isEgg (E : xE) (l : Launch) (a : Nat → Nat) (cd : Cd) (hG : Good cd) (kf : Int32) (jn js jq : Lb) (ws : va_W) (hW : WX (okM E a cd kf jn js jq) ws) (p0 : Int32) : xI E l yX12_isEgg cX12_isEgg 2 (some .boolean) 0 [.ref (a 0), .int p0] ws (fun r w => w = ws ∧ zb r ∧ (¬ r = 0 → wth p0 0 47)) := by
  refine xI_start (lv := [(0, .ref (a 0)), (1, .int p0)]) RX12 (by decide) rfl (Nat.le_of_ble_eq_true rfl) rfl (fun p e s m below meth c A C hr hlk => ?_)
  refine x_iload_n C dX12_isEgg_0 rfl 1 rfl rfl ?_
  refine x_if_lt C (tgt := 20) dX12_isEgg_1 (by decide) rfl (fun c1 => ?_) (fun c1 => ?_)
  · skip
    refine x_iconst C (v := 0) dX12_isEgg_20 (by decide) rfl ?_
    exact x_zret C hr hlk rfl dX12_isEgg_21 ⟨rfl, (Or.inl rfl), (fun q => absurd rfl q)⟩
  · skip
    obtain ⟨j2, hj3, ej4⟩ := nI_of c1
    subst ej4
    refine x_iload_n C dX12_isEgg_4 rfl 1 rfl rfl ?_
    refine x_aload_n C dX12_isEgg_5 rfl 0 rfl rfl ?_
    obtain ⟨_, k5, n6, n8, n10, v12, v13, v14, n15, n17, n19, n21, v23, v24, v25, v26, n27, n29, bn7, bn9, bn11, bn16, bn18, bn20, bn22, bn28, bn30, rfl⟩ := hW 0 _ rfl
    refine x_get C (ci := 11) (k := 0) 0 k5 rfl in_X12 (by decide) w_1118 rfl dX12_isEgg_6 rfl ?_
    refine x_sipush C (v := 381) dX12_isEgg_9 (by decide) rfl ?_
    obtain ⟨_, k31, f32, pf33, rfl⟩ := hW 1 _ rfl
    obtain ⟨n34, hn35, en36⟩ := NB_many pf33
    refine x_ialk C (v := nI n34) 381 (by decide) (by decide) (by decide) 1 k31 en36 dX12_isEgg_12 rfl ?_
    refine x_icmp_ge C (tgt := 20) dX12_isEgg_13 (by decide) rfl (fun c37 => ?_) (fun c37 => ?_)
    · skip
      have nf38 := nI_le' (a := n34) (b := j2) c37 (by omega) (by omega)
      refine x_iconst C (v := 0) dX12_isEgg_20 (by decide) rfl ?_
      exact x_zret C hr hlk rfl dX12_isEgg_21 ⟨rfl, (Or.inl rfl), (fun q => absurd rfl q)⟩
    · skip
      have nf39 := nI_nle' (a := n34) (b := j2) c37 (by omega) (by omega)
      refine x_iconst C (v := 1) dX12_isEgg_16 (by decide) rfl ?_
      refine x_goto C (tgt := 21) dX12_isEgg_17 (by decide) ?_
      exact x_zret C hr hlk rfl dX12_isEgg_21 ⟨rfl, (Or.inr rfl), (fun _ => wth_n (a := 0) (b := 47) (by omega) (by omega) (by decide))⟩
theorem dX12_isWhole_0 : decode cX12_isWhole 0 = .ok (.aload_n 0, 1) := by decide +kernel
theorem dX12_isWhole_1 : decode cX12_isWhole 1 = .ok (.iload_n 1, 1) := by decide +kernel
theorem dX12_isWhole_2 : decode cX12_isWhole 2 = .ok (.invokevirtual 105, 3) := by decide +kernel
theorem dX12_isWhole_5 : decode cX12_isWhole 5 = .ok (.ifCond .eq 20, 3) := by decide +kernel
theorem dX12_isWhole_8 : decode cX12_isWhole 8 = .ok (.aload_n 0, 1) := by decide +kernel
theorem dX12_isWhole_9 : decode cX12_isWhole 9 = .ok (.getfield 7, 3) := by decide +kernel
theorem dX12_isWhole_12 : decode cX12_isWhole 12 = .ok (.sipush 240, 3) := by decide +kernel
theorem dX12_isWhole_15 : decode cX12_isWhole 15 = .ok (.iload_n 1, 1) := by decide +kernel
theorem dX12_isWhole_16 : decode cX12_isWhole 16 = .ok (.iadd, 1) := by decide +kernel
theorem dX12_isWhole_17 : decode cX12_isWhole 17 = .ok (.iaload, 1) := by decide +kernel
theorem dX12_isWhole_18 : decode cX12_isWhole 18 = .ok (.ifCond .ne 7, 3) := by decide +kernel
theorem dX12_isWhole_21 : decode cX12_isWhole 21 = .ok (.iconst 1, 1) := by decide +kernel
theorem dX12_isWhole_22 : decode cX12_isWhole 22 = .ok (.goto 4, 3) := by decide +kernel
theorem dX12_isWhole_25 : decode cX12_isWhole 25 = .ok (.iconst 0, 1) := by decide +kernel
theorem dX12_isWhole_26 : decode cX12_isWhole 26 = .ok (.ireturn, 1) := by decide +kernel
set_option maxRecDepth 20000 in
set_option maxHeartbeats 4000000 in
theorem m_isWhole (E : xE) (l : Launch) (a : Nat → Nat) (cd : Cd) (hG : Good cd) (kf : Int32) (jn js jq : Lb) (ws : va_W) (hW : WX (okM E a cd kf jn js jq) ws) (p0 : Int32) : xI E l yX12_isWhole cX12_isWhole 2 (some .boolean) 1 [.ref (a 0), .int p0] ws (fun r w => w = ws ∧ zb r ∧ (¬ r = 0 → wth p0 0 47)) := by
  refine xI_start (lv := [(0, .ref (a 0)), (1, .int p0)]) RX12 (by decide) rfl (Nat.le_of_ble_eq_true rfl) rfl (fun p e s m below meth c A C hr hlk => ?_)
  refine x_aload_n C dX12_isWhole_0 rfl 0 rfl rfl ?_
  refine x_iload_n C dX12_isWhole_1 rfl 1 rfl rfl ?_
  obtain ⟨_, k1, n2, n4, n6, v8, v9, v10, n11, n13, n15, n17, v19, v20, v21, v22, n23, n25, bn3, bn5, bn7, bn12, bn14, bn16, bn18, bn24, bn26, rfl⟩ := hW 0 _ rfl
  refine x_vi C (As := [.int p0]) (rest := []) (m_isEgg E l a cd hG kf jn js jq ws hW p0) mf_X12_isEgg w_1439 0 k1 rfl rfl rfl (Nat.le_of_ble_eq_true rfl) ⟨(Nat.le_of_ble_eq_true rfl), (Nat.le_of_ble_eq_true rfl)⟩ ⟨(Nat.le_of_ble_eq_true rfl), (Nat.le_of_ble_eq_true rfl)⟩ dX12_isWhole_2 rfl (fun r28 w29 h27 => ?_)
  obtain ⟨hW30, zb31, x32⟩ := h27
  refine x_ws hW30 ?_
  refine x_if_eq C (tgt := 25) dX12_isWhole_5 (by decide) rfl (fun c33 => ?_) (fun c33 => ?_)
  · skip
    refine x_iconst C (v := 0) dX12_isWhole_25 (by decide) rfl ?_
    exact x_zret C hr hlk rfl dX12_isWhole_26 ⟨rfl, (Or.inl rfl), (fun q => absurd rfl q)⟩
  · skip
    obtain ⟨j34, hl35, hh36, ej37⟩ := w_nat (a := 0) (b := 47) (by decide) (by decide) (x32 c33)
    subst ej37
    refine x_aload_n C dX12_isWhole_8 rfl 0 rfl rfl ?_
    refine x_get C (ci := 11) (k := 0) 0 k1 rfl in_X12 (by decide) w_1118 rfl dX12_isWhole_9 rfl ?_
    refine x_sipush C (v := 240) dX12_isWhole_12 (by decide) rfl ?_
    refine x_iload_n C dX12_isWhole_15 rfl 1 rfl rfl ?_
    refine x_iadd C (v := (nI (240 + j34))) dX12_isWhole_16 (nI_add 240 j34) rfl ?_
    obtain ⟨_, k38, f39, pf40, rfl⟩ := hW 1 _ rfl
    refine x_iald C (v := (f39 (nI (240 + j34)).toNatClampNeg)) 1 k38 (vp_in_nI (by omega) (by decide)) rfl dX12_isWhole_17 rfl ?_
    refine x_any (fun v41 => ?_)
    refine x_if_ne C (tgt := 25) dX12_isWhole_18 (by decide) rfl (fun c42 => ?_) (fun c42 => ?_)
    · skip
      refine x_iconst C (v := 0) dX12_isWhole_25 (by decide) rfl ?_
      exact x_zret C hr hlk rfl dX12_isWhole_26 ⟨rfl, (Or.inl rfl), (fun q => absurd rfl q)⟩
    · skip
      refine x_iconst C (v := 1) dX12_isWhole_21 (by decide) rfl ?_
      refine x_goto C (tgt := 26) dX12_isWhole_22 (by decide) ?_
      exact x_zret C hr hlk rfl dX12_isWhole_26 ⟨rfl, (Or.inr rfl), (fun _ => wth_n (a := 0) (b := 47) (by omega) (by omega) (by decide))⟩
theorem dX12_isDone_0 : decode cX12_isDone 0 = .ok (.aload_n 0, 1) := by decide +kernel
theorem dX12_isDone_1 : decode cX12_isDone 1 = .ok (.getfield 7, 3) := by decide +kernel
theorem dX12_isDone_4 : decode cX12_isDone 4 = .ok (.sipush 346, 3) := by decide +kernel
theorem dX12_isDone_7 : decode cX12_isDone 7 = .ok (.iload_n 1, 1) := by decide +kernel
theorem dX12_isDone_8 : decode cX12_isDone 8 = .ok (.iadd, 1) := by decide +kernel
theorem dX12_isDone_9 : decode cX12_isDone 9 = .ok (.iaload, 1) := by decide +kernel
theorem dX12_isDone_10 : decode cX12_isDone 10 = .ok (.aload_n 0, 1) := by decide +kernel
theorem dX12_isDone_11 : decode cX12_isDone 11 = .ok (.getfield 7, 3) := by decide +kernel
theorem dX12_isDone_14 : decode cX12_isDone 14 = .ok (.sipush 338, 3) := by decide +kernel
theorem dX12_isDone_17 : decode cX12_isDone 17 = .ok (.iload_n 1, 1) := by decide +kernel
theorem dX12_isDone_18 : decode cX12_isDone 18 = .ok (.iadd, 1) := by decide +kernel
theorem dX12_isDone_19 : decode cX12_isDone 19 = .ok (.iaload, 1) := by decide +kernel
theorem dX12_isDone_20 : decode cX12_isDone 20 = .ok (.if_icmp .ne 7, 3) := by decide +kernel
theorem dX12_isDone_23 : decode cX12_isDone 23 = .ok (.iconst 1, 1) := by decide +kernel
theorem dX12_isDone_24 : decode cX12_isDone 24 = .ok (.goto 4, 3) := by decide +kernel
theorem dX12_isDone_27 : decode cX12_isDone 27 = .ok (.iconst 0, 1) := by decide +kernel
theorem dX12_isDone_28 : decode cX12_isDone 28 = .ok (.ireturn, 1) := by decide +kernel
set_option maxRecDepth 20000 in
set_option maxHeartbeats 4000000 in
theorem m_isDone (E : xE) (l : Launch) (a : Nat → Nat) (cd : Cd) (hG : Good cd) (kf : Int32) (jn js jq : Lb) (ws : va_W) (hW : WX (okM E a cd kf jn js jq) ws) (i0 : Nat) (hi0 : i0 ≤ 7) : xI E l yX12_isDone cX12_isDone 2 (some .boolean) 0 [.ref (a 0), .int (nI i0)] ws (fun r w => w = ws ∧ zb r) := by
  refine xI_start (lv := [(0, .ref (a 0)), (1, .int (nI i0))]) RX12 (by decide) rfl (Nat.le_of_ble_eq_true rfl) rfl (fun p e s m below meth c A C hr hlk => ?_)
  refine x_aload_n C dX12_isDone_0 rfl 0 rfl rfl ?_
  obtain ⟨_, k1, n2, n4, n6, v8, v9, v10, n11, n13, n15, n17, v19, v20, v21, v22, n23, n25, bn3, bn5, bn7, bn12, bn14, bn16, bn18, bn24, bn26, rfl⟩ := hW 0 _ rfl
  refine x_get C (ci := 11) (k := 0) 0 k1 rfl in_X12 (by decide) w_1118 rfl dX12_isDone_1 rfl ?_
  refine x_sipush C (v := 346) dX12_isDone_4 (by decide) rfl ?_
  refine x_iload_n C dX12_isDone_7 rfl 1 rfl rfl ?_
  refine x_iadd C (v := (nI (346 + i0))) dX12_isDone_8 (nI_add 346 i0) rfl ?_
  obtain ⟨_, k27, f28, pf29, rfl⟩ := hW 1 _ rfl
  refine x_iald C (v := (f28 (nI (346 + i0)).toNatClampNeg)) 1 k27 (vp_in_nI (by omega) (by decide)) rfl dX12_isDone_9 rfl ?_
  refine x_any (fun v30 => ?_)
  refine x_aload_n C dX12_isDone_10 rfl 0 rfl rfl ?_
  refine x_get C (ci := 11) (k := 0) 0 k1 rfl in_X12 (by decide) w_1118 rfl dX12_isDone_11 rfl ?_
  refine x_sipush C (v := 338) dX12_isDone_14 (by decide) rfl ?_
  refine x_iload_n C dX12_isDone_17 rfl 1 rfl rfl ?_
  refine x_iadd C (v := (nI (338 + i0))) dX12_isDone_18 (nI_add 338 i0) rfl ?_
  refine x_iald C (v := (f28 (nI (338 + i0)).toNatClampNeg)) 1 k27 (vp_in_nI (by omega) (by decide)) rfl dX12_isDone_19 rfl ?_
  refine x_any (fun v31 => ?_)
  refine x_icmp_ne C (tgt := 27) dX12_isDone_20 (by decide) rfl (fun c32 => ?_) (fun c32 => ?_)
  · skip
    refine x_iconst C (v := 0) dX12_isDone_27 (by decide) rfl ?_
    exact x_zret C hr hlk rfl dX12_isDone_28 ⟨rfl, (Or.inl rfl)⟩
  · skip
    refine x_iconst C (v := 1) dX12_isDone_23 (by decide) rfl ?_
    refine x_goto C (tgt := 28) dX12_isDone_24 (by decide) ?_
    exact x_zret C hr hlk rfl dX12_isDone_28 ⟨rfl, (Or.inr rfl)⟩
theorem dX12_work_0 : decode cX12_work 0 = .ok (.iload_n 1, 1) := by decide +kernel
theorem dX12_work_1 : decode cX12_work 1 = .ok (.iconst 0, 1) := by decide +kernel
theorem dX12_work_2 : decode cX12_work 2 = .ok (.bipush 7, 2) := by decide +kernel
theorem dX12_work_4 : decode cX12_work 4 = .ok (.invokestatic 109, 3) := by decide +kernel
theorem dX12_work_7 : decode cX12_work 7 = .ok (.ifCond .eq 37, 3) := by decide +kernel
theorem dX12_work_10 : decode cX12_work 10 = .ok (.iload_n 2, 1) := by decide +kernel
theorem dX12_work_11 : decode cX12_work 11 = .ok (.iconst 1, 1) := by decide +kernel
theorem dX12_work_12 : decode cX12_work 12 = .ok (.sipush 999, 3) := by decide +kernel
theorem dX12_work_15 : decode cX12_work 15 = .ok (.invokestatic 109, 3) := by decide +kernel
theorem dX12_work_18 : decode cX12_work 18 = .ok (.ifCond .eq 26, 3) := by decide +kernel
theorem dX12_work_21 : decode cX12_work 21 = .ok (.iload_n 3, 1) := by decide +kernel
theorem dX12_work_22 : decode cX12_work 22 = .ok (.iconst 0, 1) := by decide +kernel
theorem dX12_work_23 : decode cX12_work 23 = .ok (.sipush 999, 3) := by decide +kernel
theorem dX12_work_26 : decode cX12_work 26 = .ok (.invokestatic 109, 3) := by decide +kernel
theorem dX12_work_29 : decode cX12_work 29 = .ok (.ifCond .eq 15, 3) := by decide +kernel
theorem dX12_work_32 : decode cX12_work 32 = .ok (.iload 4, 2) := by decide +kernel
theorem dX12_work_34 : decode cX12_work 34 = .ok (.iconst 0, 1) := by decide +kernel
theorem dX12_work_35 : decode cX12_work 35 = .ok (.sipush 9999, 3) := by decide +kernel
theorem dX12_work_38 : decode cX12_work 38 = .ok (.invokestatic 109, 3) := by decide +kernel
theorem dX12_work_41 : decode cX12_work 41 = .ok (.ifCond .ne 5, 3) := by decide +kernel
theorem dX12_work_44 : decode cX12_work 44 = .ok (.iconst 0, 1) := by decide +kernel
theorem dX12_work_45 : decode cX12_work 45 = .ok (.ireturn, 1) := by decide +kernel
theorem dX12_work_46 : decode cX12_work 46 = .ok (.aload_n 0, 1) := by decide +kernel
theorem dX12_work_47 : decode cX12_work 47 = .ok (.getfield 7, 3) := by decide +kernel
theorem dX12_work_50 : decode cX12_work 50 = .ok (.sipush 378, 3) := by decide +kernel
theorem dX12_work_53 : decode cX12_work 53 = .ok (.aload_n 0, 1) := by decide +kernel
theorem dX12_work_54 : decode cX12_work 54 = .ok (.getfield 7, 3) := by decide +kernel
theorem dX12_work_57 : decode cX12_work 57 = .ok (.sipush 378, 3) := by decide +kernel
theorem dX12_work_60 : decode cX12_work 60 = .ok (.iaload, 1) := by decide +kernel
theorem dX12_work_61 : decode cX12_work 61 = .ok (.iconst 1, 1) := by decide +kernel
theorem dX12_work_62 : decode cX12_work 62 = .ok (.iload_n 1, 1) := by decide +kernel
theorem dX12_work_63 : decode cX12_work 63 = .ok (.ishl, 1) := by decide +kernel
theorem dX12_work_64 : decode cX12_work 64 = .ok (.ior, 1) := by decide +kernel
theorem dX12_work_65 : decode cX12_work 65 = .ok (.iastore, 1) := by decide +kernel
theorem dX12_work_66 : decode cX12_work 66 = .ok (.aload_n 0, 1) := by decide +kernel
theorem dX12_work_67 : decode cX12_work 67 = .ok (.getfield 7, 3) := by decide +kernel
theorem dX12_work_70 : decode cX12_work 70 = .ok (.sipush 338, 3) := by decide +kernel
theorem dX12_work_73 : decode cX12_work 73 = .ok (.iload_n 1, 1) := by decide +kernel
theorem dX12_work_74 : decode cX12_work 74 = .ok (.iadd, 1) := by decide +kernel
theorem dX12_work_75 : decode cX12_work 75 = .ok (.iload_n 2, 1) := by decide +kernel
theorem dX12_work_76 : decode cX12_work 76 = .ok (.iastore, 1) := by decide +kernel
theorem dX12_work_77 : decode cX12_work 77 = .ok (.aload_n 0, 1) := by decide +kernel
theorem dX12_work_78 : decode cX12_work 78 = .ok (.getfield 7, 3) := by decide +kernel
theorem dX12_work_81 : decode cX12_work 81 = .ok (.sipush 346, 3) := by decide +kernel
theorem dX12_work_84 : decode cX12_work 84 = .ok (.iload_n 1, 1) := by decide +kernel
theorem dX12_work_85 : decode cX12_work 85 = .ok (.iadd, 1) := by decide +kernel
theorem dX12_work_86 : decode cX12_work 86 = .ok (.iconst 0, 1) := by decide +kernel
theorem dX12_work_87 : decode cX12_work 87 = .ok (.iastore, 1) := by decide +kernel
theorem dX12_work_88 : decode cX12_work 88 = .ok (.aload_n 0, 1) := by decide +kernel
theorem dX12_work_89 : decode cX12_work 89 = .ok (.getfield 7, 3) := by decide +kernel
theorem dX12_work_92 : decode cX12_work 92 = .ok (.sipush 354, 3) := by decide +kernel
theorem dX12_work_95 : decode cX12_work 95 = .ok (.iload_n 1, 1) := by decide +kernel
theorem dX12_work_96 : decode cX12_work 96 = .ok (.iadd, 1) := by decide +kernel
theorem dX12_work_97 : decode cX12_work 97 = .ok (.iload_n 3, 1) := by decide +kernel
theorem dX12_work_98 : decode cX12_work 98 = .ok (.iastore, 1) := by decide +kernel
theorem dX12_work_99 : decode cX12_work 99 = .ok (.aload_n 0, 1) := by decide +kernel
theorem dX12_work_100 : decode cX12_work 100 = .ok (.getfield 7, 3) := by decide +kernel
theorem dX12_work_103 : decode cX12_work 103 = .ok (.sipush 362, 3) := by decide +kernel
theorem dX12_work_106 : decode cX12_work 106 = .ok (.iload_n 1, 1) := by decide +kernel
theorem dX12_work_107 : decode cX12_work 107 = .ok (.iadd, 1) := by decide +kernel
theorem dX12_work_108 : decode cX12_work 108 = .ok (.iload 4, 2) := by decide +kernel
theorem dX12_work_110 : decode cX12_work 110 = .ok (.iastore, 1) := by decide +kernel
theorem dX12_work_111 : decode cX12_work 111 = .ok (.iconst 1, 1) := by decide +kernel
theorem dX12_work_112 : decode cX12_work 112 = .ok (.ireturn, 1) := by decide +kernel
set_option maxRecDepth 20000 in
set_option maxHeartbeats 4000000 in
theorem m_work (E : xE) (l : Launch) (a : Nat → Nat) (cd : Cd) (hG : Good cd) (kf : Int32) (jn js jq : Lb) (ws : va_W) (hW : WX (okM E a cd kf jn js jq) ws) (p0 : Int32) (p1 : Int32) (p2 : Int32) (p3 : Int32) : xI E l yX12_work cX12_work 5 (some .boolean) 8 [.ref (a 0), .int p0, .int p1, .int p2, .int p3] ws (fun r w => WX (okM E a cd kf jn js jq) w ∧ zb r) := by
  refine xI_start (lv := [(0, .ref (a 0)), (1, .int p0), (2, .int p1), (3, .int p2), (4, .int p3)]) RX12 (by decide) rfl (Nat.le_of_ble_eq_true rfl) rfl (fun p e s m below meth c A C hr hlk => ?_)
  refine x_iload_n C dX12_work_0 rfl 1 rfl rfl ?_
  refine x_iconst C (v := 0) dX12_work_1 (by decide) rfl ?_
  refine x_bipush C (v := 7) dX12_work_2 (by decide) rfl ?_
  refine x_si C (As := [.int p0, .int 0, .int 7]) (rest := []) (m_in E l a cd hG kf jn js jq ws hW p0 (0 : Int32) (7 : Int32)) mf_X12_in w_1267 rfl rfl (Nat.le_of_ble_eq_true rfl) ⟨(Nat.le_of_ble_eq_true rfl), (Nat.le_of_ble_eq_true rfl)⟩ ⟨(Nat.le_of_ble_eq_true rfl), (Nat.le_of_ble_eq_true rfl)⟩ dX12_work_4 rfl (fun r2 w3 h1 => ?_)
  obtain ⟨hW4, zb5, x6⟩ := h1
  refine x_ws hW4 ?_
  refine x_if_eq C (tgt := 44) dX12_work_7 (by decide) rfl (fun c7 => ?_) (fun c7 => ?_)
  · skip
    refine x_iconst C (v := 0) dX12_work_44 (by decide) rfl ?_
    exact x_zret C hr hlk rfl dX12_work_45 ⟨hW, (Or.inl rfl)⟩
  · skip
    obtain ⟨j8, hl9, hh10, ej11⟩ := w_nat (a := 0) (b := 7) (by decide) (by decide) (x6 c7)
    subst ej11
    refine x_iload_n C dX12_work_10 rfl 2 rfl rfl ?_
    refine x_iconst C (v := 1) dX12_work_11 (by decide) rfl ?_
    refine x_sipush C (v := 999) dX12_work_12 (by decide) rfl ?_
    refine x_si C (As := [.int p1, .int 1, .int 999]) (rest := []) (m_in E l a cd hG kf jn js jq ws hW p1 (1 : Int32) (999 : Int32)) mf_X12_in w_1267 rfl rfl (Nat.le_of_ble_eq_true rfl) ⟨(Nat.le_of_ble_eq_true rfl), (Nat.le_of_ble_eq_true rfl)⟩ ⟨(Nat.le_of_ble_eq_true rfl), (Nat.le_of_ble_eq_true rfl)⟩ dX12_work_15 rfl (fun r13 w14 h12 => ?_)
    obtain ⟨hW15, zb16, x17⟩ := h12
    refine x_ws hW15 ?_
    refine x_if_eq C (tgt := 44) dX12_work_18 (by decide) rfl (fun c18 => ?_) (fun c18 => ?_)
    · skip
      refine x_iconst C (v := 0) dX12_work_44 (by decide) rfl ?_
      exact x_zret C hr hlk rfl dX12_work_45 ⟨hW, (Or.inl rfl)⟩
    · skip
      obtain ⟨j19, hl20, hh21, ej22⟩ := w_nat (a := 1) (b := 999) (by decide) (by decide) (x17 c18)
      subst ej22
      refine x_iload_n C dX12_work_21 rfl 3 rfl rfl ?_
      refine x_iconst C (v := 0) dX12_work_22 (by decide) rfl ?_
      refine x_sipush C (v := 999) dX12_work_23 (by decide) rfl ?_
      refine x_si C (As := [.int p2, .int 0, .int 999]) (rest := []) (m_in E l a cd hG kf jn js jq ws hW p2 (0 : Int32) (999 : Int32)) mf_X12_in w_1267 rfl rfl (Nat.le_of_ble_eq_true rfl) ⟨(Nat.le_of_ble_eq_true rfl), (Nat.le_of_ble_eq_true rfl)⟩ ⟨(Nat.le_of_ble_eq_true rfl), (Nat.le_of_ble_eq_true rfl)⟩ dX12_work_26 rfl (fun r24 w25 h23 => ?_)
      obtain ⟨hW26, zb27, x28⟩ := h23
      refine x_ws hW26 ?_
      refine x_if_eq C (tgt := 44) dX12_work_29 (by decide) rfl (fun c29 => ?_) (fun c29 => ?_)
      · skip
        refine x_iconst C (v := 0) dX12_work_44 (by decide) rfl ?_
        exact x_zret C hr hlk rfl dX12_work_45 ⟨hW, (Or.inl rfl)⟩
      · skip
        obtain ⟨j30, hl31, hh32, ej33⟩ := w_nat (a := 0) (b := 999) (by decide) (by decide) (x28 c29)
        subst ej33
        refine x_iload C dX12_work_32 4 rfl rfl ?_
        refine x_iconst C (v := 0) dX12_work_34 (by decide) rfl ?_
        refine x_sipush C (v := 9999) dX12_work_35 (by decide) rfl ?_
        refine x_si C (As := [.int p3, .int 0, .int 9999]) (rest := []) (m_in E l a cd hG kf jn js jq ws hW p3 (0 : Int32) (9999 : Int32)) mf_X12_in w_1267 rfl rfl (Nat.le_of_ble_eq_true rfl) ⟨(Nat.le_of_ble_eq_true rfl), (Nat.le_of_ble_eq_true rfl)⟩ ⟨(Nat.le_of_ble_eq_true rfl), (Nat.le_of_ble_eq_true rfl)⟩ dX12_work_38 rfl (fun r35 w36 h34 => ?_)
        obtain ⟨hW37, zb38, x39⟩ := h34
        refine x_ws hW37 ?_
        refine x_if_ne C (tgt := 46) dX12_work_41 (by decide) rfl (fun c40 => ?_) (fun c40 => ?_)
        · skip
          obtain ⟨j41, hl42, hh43, ej44⟩ := w_nat (a := 0) (b := 9999) (by decide) (by decide) (x39 c40)
          subst ej44
          refine x_aload_n C dX12_work_46 rfl 0 rfl rfl ?_
          obtain ⟨_, k45, n46, n48, n50, v52, v53, v54, n55, n57, n59, n61, v63, v64, v65, v66, n67, n69, bn47, bn49, bn51, bn56, bn58, bn60, bn62, bn68, bn70, rfl⟩ := hW 0 _ rfl
          refine x_get C (ci := 11) (k := 0) 0 k45 rfl in_X12 (by decide) w_1118 rfl dX12_work_47 rfl ?_
          refine x_sipush C (v := 378) dX12_work_50 (by decide) rfl ?_
          refine x_aload_n C dX12_work_53 rfl 0 rfl rfl ?_
          refine x_get C (ci := 11) (k := 0) 0 k45 rfl in_X12 (by decide) w_1118 rfl dX12_work_54 rfl ?_
          refine x_sipush C (v := 378) dX12_work_57 (by decide) rfl ?_
          obtain ⟨_, k71, f72, pf73, rfl⟩ := hW 1 _ rfl
          refine x_iald C (v := (f72 (378 : Int32).toNatClampNeg)) 1 k71 (vp_k (j := 378) (by decide) (by decide) (by decide)) rfl dX12_work_60 rfl ?_
          refine x_any (fun v74 => ?_)
          refine x_iconst C (v := 1) dX12_work_61 (by decide) rfl ?_
          refine x_iload_n C dX12_work_62 rfl 1 rfl rfl ?_
          refine x_ishl C (v := ((1 : Int32) <<< ((nI j8) &&& 31))) dX12_work_63 rfl rfl ?_
          refine x_any (fun v75 => ?_)
          refine x_ior C (v := (v74 ||| v75)) dX12_work_64 rfl rfl ?_
          refine x_any (fun v76 => ?_)
          have pf77 : NB jn (upd f72 378 v76) := NB_free pf73 (by unfold bd; omega)
          obtain ⟨w78, hw79⟩ : ∃ w : va_W, w = List.set ws 1 (iA E (a 1) 382 (upd f72 378 v76)) := ⟨_, rfl⟩
          refine x_iask C 378 (by decide) (by decide) (by decide) 1 k71 hw79.symm dX12_work_65 rfl ?_
          have hW80 : WX (okM E a cd kf jn js jq) w78 := by rw [hw79]; exact hW.set (k := 1) rfl ⟨_, pf77, rfl⟩
          have k81 : w78[0]? = some (ob (a 0) 11 [.ref (a 1), .ref (a 2), .ref (a 3), .ref (a 4), .int (nI n46), .int (nI n48), .int (nI n50), .int v52, .int v53, .int v54, .int (nI n55), .int (nI n57), .int (nI n59), .int (nI (cd.2.2.2.2.2)), .ref (a 5), .ref (a 6), .ref (a 7), .ref (a 8), .ref (a 9), .ref (a 10), .ref (a 11), .ref (a 12), .ref (a 13), .ref (a 14), .ref (a 15), .ref (a 16), .ref (a 17), .int (nI n61), .ref (a 18), .ref (a 19), .ref (a 20), .ref (a 21), .int v63, .int v64, .int v65, .int v66, .int (nI n67), .int (nI n69), .ref (a 22), .ref (a 23), .ref (a 24), .ref (a 25), .ref (a 26), .ref (a 27), .ref (a 28), .ref (a 29), .ref (a 30), .int kf]) := by rw [hw79]; exact set_ne k45 (by decide)
          have k82 : w78[1]? = some (iA E (a 1) 382 (upd f72 378 v76)) := by rw [hw79]; exact set_eq k71
          refine x_aload_n C dX12_work_66 rfl 0 rfl rfl ?_
          refine x_get C (ci := 11) (k := 0) 0 k81 rfl in_X12 (by decide) w_1118 rfl dX12_work_67 rfl ?_
          refine x_sipush C (v := 338) dX12_work_70 (by decide) rfl ?_
          refine x_iload_n C dX12_work_73 rfl 1 rfl rfl ?_
          refine x_iadd C (v := (nI (338 + j8))) dX12_work_74 (nI_add 338 j8) rfl ?_
          refine x_iload_n C dX12_work_75 rfl 2 rfl rfl ?_
          have pf83 : NB jn (upd (upd f72 378 v76) (338 + j8) (nI j19)) := NB_free pf77 (by unfold bd; omega)
          obtain ⟨w84, hw85⟩ : ∃ w : va_W, w = List.set w78 1 (iA E (a 1) 382 (upd (upd f72 378 v76) (338 + j8) (nI j19))) := ⟨_, rfl⟩
          refine x_iask C (338 + j8) (nI_clamp (by omega)) (nI_pos (by omega)) (by omega) 1 k82 hw85.symm dX12_work_76 rfl ?_
          have hW86 : WX (okM E a cd kf jn js jq) w84 := by rw [hw85]; exact hW80.set (k := 1) rfl ⟨_, pf83, rfl⟩
          have k87 : w84[0]? = some (ob (a 0) 11 [.ref (a 1), .ref (a 2), .ref (a 3), .ref (a 4), .int (nI n46), .int (nI n48), .int (nI n50), .int v52, .int v53, .int v54, .int (nI n55), .int (nI n57), .int (nI n59), .int (nI (cd.2.2.2.2.2)), .ref (a 5), .ref (a 6), .ref (a 7), .ref (a 8), .ref (a 9), .ref (a 10), .ref (a 11), .ref (a 12), .ref (a 13), .ref (a 14), .ref (a 15), .ref (a 16), .ref (a 17), .int (nI n61), .ref (a 18), .ref (a 19), .ref (a 20), .ref (a 21), .int v63, .int v64, .int v65, .int v66, .int (nI n67), .int (nI n69), .ref (a 22), .ref (a 23), .ref (a 24), .ref (a 25), .ref (a 26), .ref (a 27), .ref (a 28), .ref (a 29), .ref (a 30), .int kf]) := by rw [hw85]; exact set_ne k81 (by decide)
          have k88 : w84[1]? = some (iA E (a 1) 382 (upd (upd f72 378 v76) (338 + j8) (nI j19))) := by rw [hw85]; exact set_eq k82
          refine x_aload_n C dX12_work_77 rfl 0 rfl rfl ?_
          refine x_get C (ci := 11) (k := 0) 0 k87 rfl in_X12 (by decide) w_1118 rfl dX12_work_78 rfl ?_
          refine x_sipush C (v := 346) dX12_work_81 (by decide) rfl ?_
          refine x_iload_n C dX12_work_84 rfl 1 rfl rfl ?_
          refine x_iadd C (v := (nI (346 + j8))) dX12_work_85 (nI_add 346 j8) rfl ?_
          refine x_iconst C (v := 0) dX12_work_86 (by decide) rfl ?_
          have pf89 : NB jn (upd (upd (upd f72 378 v76) (338 + j8) (nI j19)) (346 + j8) (0 : Int32)) := NB_free pf83 (by unfold bd; omega)
          obtain ⟨w90, hw91⟩ : ∃ w : va_W, w = List.set w84 1 (iA E (a 1) 382 (upd (upd (upd f72 378 v76) (338 + j8) (nI j19)) (346 + j8) (0 : Int32))) := ⟨_, rfl⟩
          refine x_iask C (346 + j8) (nI_clamp (by omega)) (nI_pos (by omega)) (by omega) 1 k88 hw91.symm dX12_work_87 rfl ?_
          have hW92 : WX (okM E a cd kf jn js jq) w90 := by rw [hw91]; exact hW86.set (k := 1) rfl ⟨_, pf89, rfl⟩
          have k93 : w90[0]? = some (ob (a 0) 11 [.ref (a 1), .ref (a 2), .ref (a 3), .ref (a 4), .int (nI n46), .int (nI n48), .int (nI n50), .int v52, .int v53, .int v54, .int (nI n55), .int (nI n57), .int (nI n59), .int (nI (cd.2.2.2.2.2)), .ref (a 5), .ref (a 6), .ref (a 7), .ref (a 8), .ref (a 9), .ref (a 10), .ref (a 11), .ref (a 12), .ref (a 13), .ref (a 14), .ref (a 15), .ref (a 16), .ref (a 17), .int (nI n61), .ref (a 18), .ref (a 19), .ref (a 20), .ref (a 21), .int v63, .int v64, .int v65, .int v66, .int (nI n67), .int (nI n69), .ref (a 22), .ref (a 23), .ref (a 24), .ref (a 25), .ref (a 26), .ref (a 27), .ref (a 28), .ref (a 29), .ref (a 30), .int kf]) := by rw [hw91]; exact set_ne k87 (by decide)
          have k94 : w90[1]? = some (iA E (a 1) 382 (upd (upd (upd f72 378 v76) (338 + j8) (nI j19)) (346 + j8) (0 : Int32))) := by rw [hw91]; exact set_eq k88
          refine x_aload_n C dX12_work_88 rfl 0 rfl rfl ?_
          refine x_get C (ci := 11) (k := 0) 0 k93 rfl in_X12 (by decide) w_1118 rfl dX12_work_89 rfl ?_
          refine x_sipush C (v := 354) dX12_work_92 (by decide) rfl ?_
          refine x_iload_n C dX12_work_95 rfl 1 rfl rfl ?_
          refine x_iadd C (v := (nI (354 + j8))) dX12_work_96 (nI_add 354 j8) rfl ?_
          refine x_iload_n C dX12_work_97 rfl 3 rfl rfl ?_
          have pf95 : NB jn (upd (upd (upd (upd f72 378 v76) (338 + j8) (nI j19)) (346 + j8) (0 : Int32)) (354 + j8) (nI j30)) := NB_free pf89 (by unfold bd; omega)
          obtain ⟨w96, hw97⟩ : ∃ w : va_W, w = List.set w90 1 (iA E (a 1) 382 (upd (upd (upd (upd f72 378 v76) (338 + j8) (nI j19)) (346 + j8) (0 : Int32)) (354 + j8) (nI j30))) := ⟨_, rfl⟩
          refine x_iask C (354 + j8) (nI_clamp (by omega)) (nI_pos (by omega)) (by omega) 1 k94 hw97.symm dX12_work_98 rfl ?_
          have hW98 : WX (okM E a cd kf jn js jq) w96 := by rw [hw97]; exact hW92.set (k := 1) rfl ⟨_, pf95, rfl⟩
          have k99 : w96[0]? = some (ob (a 0) 11 [.ref (a 1), .ref (a 2), .ref (a 3), .ref (a 4), .int (nI n46), .int (nI n48), .int (nI n50), .int v52, .int v53, .int v54, .int (nI n55), .int (nI n57), .int (nI n59), .int (nI (cd.2.2.2.2.2)), .ref (a 5), .ref (a 6), .ref (a 7), .ref (a 8), .ref (a 9), .ref (a 10), .ref (a 11), .ref (a 12), .ref (a 13), .ref (a 14), .ref (a 15), .ref (a 16), .ref (a 17), .int (nI n61), .ref (a 18), .ref (a 19), .ref (a 20), .ref (a 21), .int v63, .int v64, .int v65, .int v66, .int (nI n67), .int (nI n69), .ref (a 22), .ref (a 23), .ref (a 24), .ref (a 25), .ref (a 26), .ref (a 27), .ref (a 28), .ref (a 29), .ref (a 30), .int kf]) := by rw [hw97]; exact set_ne k93 (by decide)
          have k100 : w96[1]? = some (iA E (a 1) 382 (upd (upd (upd (upd f72 378 v76) (338 + j8) (nI j19)) (346 + j8) (0 : Int32)) (354 + j8) (nI j30))) := by rw [hw97]; exact set_eq k94
          refine x_aload_n C dX12_work_99 rfl 0 rfl rfl ?_
          refine x_get C (ci := 11) (k := 0) 0 k99 rfl in_X12 (by decide) w_1118 rfl dX12_work_100 rfl ?_
          refine x_sipush C (v := 362) dX12_work_103 (by decide) rfl ?_
          refine x_iload_n C dX12_work_106 rfl 1 rfl rfl ?_
          refine x_iadd C (v := (nI (362 + j8))) dX12_work_107 (nI_add 362 j8) rfl ?_
          refine x_iload C dX12_work_108 4 rfl rfl ?_
          have pf101 : NB jn (upd (upd (upd (upd (upd f72 378 v76) (338 + j8) (nI j19)) (346 + j8) (0 : Int32)) (354 + j8) (nI j30)) (362 + j8) (nI j41)) := NB_free pf95 (by unfold bd; omega)
          obtain ⟨w102, hw103⟩ : ∃ w : va_W, w = List.set w96 1 (iA E (a 1) 382 (upd (upd (upd (upd (upd f72 378 v76) (338 + j8) (nI j19)) (346 + j8) (0 : Int32)) (354 + j8) (nI j30)) (362 + j8) (nI j41))) := ⟨_, rfl⟩
          refine x_iask C (362 + j8) (nI_clamp (by omega)) (nI_pos (by omega)) (by omega) 1 k100 hw103.symm dX12_work_110 rfl ?_
          have hW104 : WX (okM E a cd kf jn js jq) w102 := by rw [hw103]; exact hW98.set (k := 1) rfl ⟨_, pf101, rfl⟩
          have k105 : w102[0]? = some (ob (a 0) 11 [.ref (a 1), .ref (a 2), .ref (a 3), .ref (a 4), .int (nI n46), .int (nI n48), .int (nI n50), .int v52, .int v53, .int v54, .int (nI n55), .int (nI n57), .int (nI n59), .int (nI (cd.2.2.2.2.2)), .ref (a 5), .ref (a 6), .ref (a 7), .ref (a 8), .ref (a 9), .ref (a 10), .ref (a 11), .ref (a 12), .ref (a 13), .ref (a 14), .ref (a 15), .ref (a 16), .ref (a 17), .int (nI n61), .ref (a 18), .ref (a 19), .ref (a 20), .ref (a 21), .int v63, .int v64, .int v65, .int v66, .int (nI n67), .int (nI n69), .ref (a 22), .ref (a 23), .ref (a 24), .ref (a 25), .ref (a 26), .ref (a 27), .ref (a 28), .ref (a 29), .ref (a 30), .int kf]) := by rw [hw103]; exact set_ne k99 (by decide)
          have k106 : w102[1]? = some (iA E (a 1) 382 (upd (upd (upd (upd (upd f72 378 v76) (338 + j8) (nI j19)) (346 + j8) (0 : Int32)) (354 + j8) (nI j30)) (362 + j8) (nI j41))) := by rw [hw103]; exact set_eq k100
          refine x_iconst C (v := 1) dX12_work_111 (by decide) rfl ?_
          exact x_zret C hr hlk rfl dX12_work_112 ⟨hW104, (Or.inr rfl)⟩
        · skip
          refine x_iconst C (v := 0) dX12_work_44 (by decide) rfl ?_
          exact x_zret C hr hlk rfl dX12_work_45 ⟨hW, (Or.inl rfl)⟩
theorem dX12_puts_0 : decode cX12_puts 0 = .ok (.aload_n 0, 1) := by decide +kernel
theorem dX12_puts_1 : decode cX12_puts 1 = .ok (.getfield 7, 3) := by decide +kernel
theorem dX12_puts_4 : decode cX12_puts 4 = .ok (.iconst 0, 1) := by decide +kernel
theorem dX12_puts_5 : decode cX12_puts 5 = .ok (.iload_n 2, 1) := by decide +kernel
theorem dX12_puts_6 : decode cX12_puts 6 = .ok (.iadd, 1) := by decide +kernel
theorem dX12_puts_7 : decode cX12_puts 7 = .ok (.aload_n 0, 1) := by decide +kernel
theorem dX12_puts_8 : decode cX12_puts 8 = .ok (.getfield 7, 3) := by decide +kernel
theorem dX12_puts_11 : decode cX12_puts 11 = .ok (.iconst 0, 1) := by decide +kernel
theorem dX12_puts_12 : decode cX12_puts 12 = .ok (.iload_n 1, 1) := by decide +kernel
theorem dX12_puts_13 : decode cX12_puts 13 = .ok (.iadd, 1) := by decide +kernel
theorem dX12_puts_14 : decode cX12_puts 14 = .ok (.iaload, 1) := by decide +kernel
theorem dX12_puts_15 : decode cX12_puts 15 = .ok (.iastore, 1) := by decide +kernel
theorem dX12_puts_16 : decode cX12_puts 16 = .ok (.aload_n 0, 1) := by decide +kernel
theorem dX12_puts_17 : decode cX12_puts 17 = .ok (.getfield 7, 3) := by decide +kernel
theorem dX12_puts_20 : decode cX12_puts 20 = .ok (.bipush 48, 2) := by decide +kernel
theorem dX12_puts_22 : decode cX12_puts 22 = .ok (.iload_n 2, 1) := by decide +kernel
theorem dX12_puts_23 : decode cX12_puts 23 = .ok (.iadd, 1) := by decide +kernel
theorem dX12_puts_24 : decode cX12_puts 24 = .ok (.aload_n 0, 1) := by decide +kernel
theorem dX12_puts_25 : decode cX12_puts 25 = .ok (.getfield 7, 3) := by decide +kernel
theorem dX12_puts_28 : decode cX12_puts 28 = .ok (.bipush 48, 2) := by decide +kernel
theorem dX12_puts_30 : decode cX12_puts 30 = .ok (.iload_n 1, 1) := by decide +kernel
theorem dX12_puts_31 : decode cX12_puts 31 = .ok (.iadd, 1) := by decide +kernel
theorem dX12_puts_32 : decode cX12_puts 32 = .ok (.iaload, 1) := by decide +kernel
theorem dX12_puts_33 : decode cX12_puts 33 = .ok (.iastore, 1) := by decide +kernel
theorem dX12_puts_34 : decode cX12_puts 34 = .ok (.aload_n 0, 1) := by decide +kernel
theorem dX12_puts_35 : decode cX12_puts 35 = .ok (.getfield 7, 3) := by decide +kernel
theorem dX12_puts_38 : decode cX12_puts 38 = .ok (.bipush 96, 2) := by decide +kernel
theorem dX12_puts_40 : decode cX12_puts 40 = .ok (.iload_n 2, 1) := by decide +kernel
theorem dX12_puts_41 : decode cX12_puts 41 = .ok (.iadd, 1) := by decide +kernel
theorem dX12_puts_42 : decode cX12_puts 42 = .ok (.aload_n 0, 1) := by decide +kernel
theorem dX12_puts_43 : decode cX12_puts 43 = .ok (.getfield 7, 3) := by decide +kernel
theorem dX12_puts_46 : decode cX12_puts 46 = .ok (.bipush 96, 2) := by decide +kernel
theorem dX12_puts_48 : decode cX12_puts 48 = .ok (.iload_n 1, 1) := by decide +kernel
theorem dX12_puts_49 : decode cX12_puts 49 = .ok (.iadd, 1) := by decide +kernel
theorem dX12_puts_50 : decode cX12_puts 50 = .ok (.iaload, 1) := by decide +kernel
theorem dX12_puts_51 : decode cX12_puts 51 = .ok (.iastore, 1) := by decide +kernel
theorem dX12_puts_52 : decode cX12_puts 52 = .ok (.aload_n 0, 1) := by decide +kernel
theorem dX12_puts_53 : decode cX12_puts 53 = .ok (.getfield 7, 3) := by decide +kernel
theorem dX12_puts_56 : decode cX12_puts 56 = .ok (.sipush 144, 3) := by decide +kernel
theorem dX12_puts_59 : decode cX12_puts 59 = .ok (.iload_n 2, 1) := by decide +kernel
theorem dX12_puts_60 : decode cX12_puts 60 = .ok (.iadd, 1) := by decide +kernel
theorem dX12_puts_61 : decode cX12_puts 61 = .ok (.aload_n 0, 1) := by decide +kernel
theorem dX12_puts_62 : decode cX12_puts 62 = .ok (.getfield 7, 3) := by decide +kernel
theorem dX12_puts_65 : decode cX12_puts 65 = .ok (.sipush 144, 3) := by decide +kernel
theorem dX12_puts_68 : decode cX12_puts 68 = .ok (.iload_n 1, 1) := by decide +kernel
theorem dX12_puts_69 : decode cX12_puts 69 = .ok (.iadd, 1) := by decide +kernel
theorem dX12_puts_70 : decode cX12_puts 70 = .ok (.iaload, 1) := by decide +kernel
theorem dX12_puts_71 : decode cX12_puts 71 = .ok (.iastore, 1) := by decide +kernel
theorem dX12_puts_72 : decode cX12_puts 72 = .ok (.aload_n 0, 1) := by decide +kernel
theorem dX12_puts_73 : decode cX12_puts 73 = .ok (.getfield 7, 3) := by decide +kernel
theorem dX12_puts_76 : decode cX12_puts 76 = .ok (.sipush 192, 3) := by decide +kernel
theorem dX12_puts_79 : decode cX12_puts 79 = .ok (.iload_n 2, 1) := by decide +kernel
theorem dX12_puts_80 : decode cX12_puts 80 = .ok (.iadd, 1) := by decide +kernel
theorem dX12_puts_81 : decode cX12_puts 81 = .ok (.aload_n 0, 1) := by decide +kernel
theorem dX12_puts_82 : decode cX12_puts 82 = .ok (.getfield 7, 3) := by decide +kernel
theorem dX12_puts_85 : decode cX12_puts 85 = .ok (.sipush 192, 3) := by decide +kernel
theorem dX12_puts_88 : decode cX12_puts 88 = .ok (.iload_n 1, 1) := by decide +kernel
theorem dX12_puts_89 : decode cX12_puts 89 = .ok (.iadd, 1) := by decide +kernel
theorem dX12_puts_90 : decode cX12_puts 90 = .ok (.iaload, 1) := by decide +kernel
theorem dX12_puts_91 : decode cX12_puts 91 = .ok (.iastore, 1) := by decide +kernel
theorem dX12_puts_92 : decode cX12_puts 92 = .ok (.aload_n 0, 1) := by decide +kernel
theorem dX12_puts_93 : decode cX12_puts 93 = .ok (.getfield 7, 3) := by decide +kernel
theorem dX12_puts_96 : decode cX12_puts 96 = .ok (.sipush 240, 3) := by decide +kernel
theorem dX12_puts_99 : decode cX12_puts 99 = .ok (.iload_n 2, 1) := by decide +kernel
theorem dX12_puts_100 : decode cX12_puts 100 = .ok (.iadd, 1) := by decide +kernel
theorem dX12_puts_101 : decode cX12_puts 101 = .ok (.aload_n 0, 1) := by decide +kernel
theorem dX12_puts_102 : decode cX12_puts 102 = .ok (.getfield 7, 3) := by decide +kernel
theorem dX12_puts_105 : decode cX12_puts 105 = .ok (.sipush 240, 3) := by decide +kernel
theorem dX12_puts_108 : decode cX12_puts 108 = .ok (.iload_n 1, 1) := by decide +kernel
theorem dX12_puts_109 : decode cX12_puts 109 = .ok (.iadd, 1) := by decide +kernel
theorem dX12_puts_110 : decode cX12_puts 110 = .ok (.iaload, 1) := by decide +kernel
theorem dX12_puts_111 : decode cX12_puts 111 = .ok (.iastore, 1) := by decide +kernel
theorem dX12_puts_112 : decode cX12_puts 112 = .ok (.return_, 1) := by decide +kernel
set_option maxRecDepth 20000 in
set_option maxHeartbeats 4000000 in
theorem m_puts (E : xE) (l : Launch) (a : Nat → Nat) (cd : Cd) (hG : Good cd) (kf : Int32) (jn js jq : Lb) (ws : va_W) (hW : WX (okM E a cd kf jn js jq) ws) (f0 : Nat) (t0 : Nat) (hf0 : f0 ≤ 47) (ht0 : t0 ≤ 47) : xV E l yX12_puts cX12_puts 3 0 0 0 [.ref (a 0), .int (nI f0), .int (nI t0)] ws (fun w => WX (okM E a cd kf jn js jq) w ∧ keeps ws w (fun q => q = 1)) := by
  refine xV_start (lv := [(0, .ref (a 0)), (1, .int (nI f0)), (2, .int (nI t0))]) RX12 (by decide) rfl (Nat.le_of_ble_eq_true rfl) rfl (fun p e s m below meth c A C hr hlk hin => ?_)
  have kp0 : keeps ws ws (fun q => q = 1) := keeps_rf
  refine x_aload_n C dX12_puts_0 rfl 0 rfl rfl ?_
  obtain ⟨_, k1, n2, n4, n6, v8, v9, v10, n11, n13, n15, n17, v19, v20, v21, v22, n23, n25, bn3, bn5, bn7, bn12, bn14, bn16, bn18, bn24, bn26, rfl⟩ := hW 0 _ rfl
  refine x_get C (ci := 11) (k := 0) 0 k1 rfl in_X12 (by decide) w_1118 rfl dX12_puts_1 rfl ?_
  refine x_iconst C (v := 0) dX12_puts_4 (by decide) rfl ?_
  refine x_iload_n C dX12_puts_5 rfl 2 rfl rfl ?_
  refine x_iadd C (v := (nI (0 + t0))) dX12_puts_6 (nI_add 0 t0) rfl ?_
  refine x_aload_n C dX12_puts_7 rfl 0 rfl rfl ?_
  refine x_get C (ci := 11) (k := 0) 0 k1 rfl in_X12 (by decide) w_1118 rfl dX12_puts_8 rfl ?_
  refine x_iconst C (v := 0) dX12_puts_11 (by decide) rfl ?_
  refine x_iload_n C dX12_puts_12 rfl 1 rfl rfl ?_
  refine x_iadd C (v := (nI (0 + f0))) dX12_puts_13 (nI_add 0 f0) rfl ?_
  obtain ⟨_, k27, f28, pf29, rfl⟩ := hW 1 _ rfl
  refine x_iald C (v := (f28 (nI (0 + f0)).toNatClampNeg)) 1 k27 (vp_in_nI (by omega) (by decide)) rfl dX12_puts_14 rfl ?_
  refine x_any (fun v30 => ?_)
  have pf31 : NB jn (upd f28 (0 + t0) v30) := NB_free pf29 (by unfold bd; omega)
  obtain ⟨w32, hw33⟩ : ∃ w : va_W, w = List.set ws 1 (iA E (a 1) 382 (upd f28 (0 + t0) v30)) := ⟨_, rfl⟩
  refine x_iask C (0 + t0) (nI_clamp (by omega)) (nI_pos (by omega)) (by omega) 1 k27 hw33.symm dX12_puts_15 rfl ?_
  have hW34 : WX (okM E a cd kf jn js jq) w32 := by rw [hw33]; exact hW.set (k := 1) rfl ⟨_, pf31, rfl⟩
  have k35 : w32[0]? = some (ob (a 0) 11 [.ref (a 1), .ref (a 2), .ref (a 3), .ref (a 4), .int (nI n2), .int (nI n4), .int (nI n6), .int v8, .int v9, .int v10, .int (nI n11), .int (nI n13), .int (nI n15), .int (nI (cd.2.2.2.2.2)), .ref (a 5), .ref (a 6), .ref (a 7), .ref (a 8), .ref (a 9), .ref (a 10), .ref (a 11), .ref (a 12), .ref (a 13), .ref (a 14), .ref (a 15), .ref (a 16), .ref (a 17), .int (nI n17), .ref (a 18), .ref (a 19), .ref (a 20), .ref (a 21), .int v19, .int v20, .int v21, .int v22, .int (nI n23), .int (nI n25), .ref (a 22), .ref (a 23), .ref (a 24), .ref (a 25), .ref (a 26), .ref (a 27), .ref (a 28), .ref (a 29), .ref (a 30), .int kf]) := by rw [hw33]; exact set_ne k1 (by decide)
  have k36 : w32[1]? = some (iA E (a 1) 382 (upd f28 (0 + t0) v30)) := by rw [hw33]; exact set_eq k27
  have kp37 := keeps_set kp0 hw33 (by first | exact rfl | decide | omega | (dsimp only; omega))
  refine x_aload_n C dX12_puts_16 rfl 0 rfl rfl ?_
  refine x_get C (ci := 11) (k := 0) 0 k35 rfl in_X12 (by decide) w_1118 rfl dX12_puts_17 rfl ?_
  refine x_bipush C (v := 48) dX12_puts_20 (by decide) rfl ?_
  refine x_iload_n C dX12_puts_22 rfl 2 rfl rfl ?_
  refine x_iadd C (v := (nI (48 + t0))) dX12_puts_23 (nI_add 48 t0) rfl ?_
  refine x_aload_n C dX12_puts_24 rfl 0 rfl rfl ?_
  refine x_get C (ci := 11) (k := 0) 0 k35 rfl in_X12 (by decide) w_1118 rfl dX12_puts_25 rfl ?_
  refine x_bipush C (v := 48) dX12_puts_28 (by decide) rfl ?_
  refine x_iload_n C dX12_puts_30 rfl 1 rfl rfl ?_
  refine x_iadd C (v := (nI (48 + f0))) dX12_puts_31 (nI_add 48 f0) rfl ?_
  obtain ⟨n38, hn39, en40⟩ := NB_lo (j := f0) pf31 (by omega)
  refine x_ialk C (v := nI n38) (48 + f0) (nI_clamp (by omega)) (nI_pos (by omega)) (by omega) 1 k36 en40 dX12_puts_32 rfl ?_
  have pf41 : NB jn (upd (upd f28 (0 + t0) v30) (48 + t0) (nI n38)) := NB_put_lo (j := t0) pf31 (by omega) (by omega)
  obtain ⟨w42, hw43⟩ : ∃ w : va_W, w = List.set w32 1 (iA E (a 1) 382 (upd (upd f28 (0 + t0) v30) (48 + t0) (nI n38))) := ⟨_, rfl⟩
  refine x_iask C (48 + t0) (nI_clamp (by omega)) (nI_pos (by omega)) (by omega) 1 k36 hw43.symm dX12_puts_33 rfl ?_
  have hW44 : WX (okM E a cd kf jn js jq) w42 := by rw [hw43]; exact hW34.set (k := 1) rfl ⟨_, pf41, rfl⟩
  have k45 : w42[0]? = some (ob (a 0) 11 [.ref (a 1), .ref (a 2), .ref (a 3), .ref (a 4), .int (nI n2), .int (nI n4), .int (nI n6), .int v8, .int v9, .int v10, .int (nI n11), .int (nI n13), .int (nI n15), .int (nI (cd.2.2.2.2.2)), .ref (a 5), .ref (a 6), .ref (a 7), .ref (a 8), .ref (a 9), .ref (a 10), .ref (a 11), .ref (a 12), .ref (a 13), .ref (a 14), .ref (a 15), .ref (a 16), .ref (a 17), .int (nI n17), .ref (a 18), .ref (a 19), .ref (a 20), .ref (a 21), .int v19, .int v20, .int v21, .int v22, .int (nI n23), .int (nI n25), .ref (a 22), .ref (a 23), .ref (a 24), .ref (a 25), .ref (a 26), .ref (a 27), .ref (a 28), .ref (a 29), .ref (a 30), .int kf]) := by rw [hw43]; exact set_ne k35 (by decide)
  have k46 : w42[1]? = some (iA E (a 1) 382 (upd (upd f28 (0 + t0) v30) (48 + t0) (nI n38))) := by rw [hw43]; exact set_eq k36
  have kp47 := keeps_set kp37 hw43 (by first | exact rfl | decide | omega | (dsimp only; omega))
  refine x_aload_n C dX12_puts_34 rfl 0 rfl rfl ?_
  refine x_get C (ci := 11) (k := 0) 0 k45 rfl in_X12 (by decide) w_1118 rfl dX12_puts_35 rfl ?_
  refine x_bipush C (v := 96) dX12_puts_38 (by decide) rfl ?_
  refine x_iload_n C dX12_puts_40 rfl 2 rfl rfl ?_
  refine x_iadd C (v := (nI (96 + t0))) dX12_puts_41 (nI_add 96 t0) rfl ?_
  refine x_aload_n C dX12_puts_42 rfl 0 rfl rfl ?_
  refine x_get C (ci := 11) (k := 0) 0 k45 rfl in_X12 (by decide) w_1118 rfl dX12_puts_43 rfl ?_
  refine x_bipush C (v := 96) dX12_puts_46 (by decide) rfl ?_
  refine x_iload_n C dX12_puts_48 rfl 1 rfl rfl ?_
  refine x_iadd C (v := (nI (96 + f0))) dX12_puts_49 (nI_add 96 f0) rfl ?_
  obtain ⟨n48, hn49, en50⟩ := NB_hen (j := f0) pf41 (by omega)
  refine x_ialk C (v := nI n48) (96 + f0) (nI_clamp (by omega)) (nI_pos (by omega)) (by omega) 1 k46 en50 dX12_puts_50 rfl ?_
  have pf51 : NB jn (upd (upd (upd f28 (0 + t0) v30) (48 + t0) (nI n38)) (96 + t0) (nI n48)) := NB_put_hen (j := t0) pf41 (by omega) (by omega)
  obtain ⟨w52, hw53⟩ : ∃ w : va_W, w = List.set w42 1 (iA E (a 1) 382 (upd (upd (upd f28 (0 + t0) v30) (48 + t0) (nI n38)) (96 + t0) (nI n48))) := ⟨_, rfl⟩
  refine x_iask C (96 + t0) (nI_clamp (by omega)) (nI_pos (by omega)) (by omega) 1 k46 hw53.symm dX12_puts_51 rfl ?_
  have hW54 : WX (okM E a cd kf jn js jq) w52 := by rw [hw53]; exact hW44.set (k := 1) rfl ⟨_, pf51, rfl⟩
  have k55 : w52[0]? = some (ob (a 0) 11 [.ref (a 1), .ref (a 2), .ref (a 3), .ref (a 4), .int (nI n2), .int (nI n4), .int (nI n6), .int v8, .int v9, .int v10, .int (nI n11), .int (nI n13), .int (nI n15), .int (nI (cd.2.2.2.2.2)), .ref (a 5), .ref (a 6), .ref (a 7), .ref (a 8), .ref (a 9), .ref (a 10), .ref (a 11), .ref (a 12), .ref (a 13), .ref (a 14), .ref (a 15), .ref (a 16), .ref (a 17), .int (nI n17), .ref (a 18), .ref (a 19), .ref (a 20), .ref (a 21), .int v19, .int v20, .int v21, .int v22, .int (nI n23), .int (nI n25), .ref (a 22), .ref (a 23), .ref (a 24), .ref (a 25), .ref (a 26), .ref (a 27), .ref (a 28), .ref (a 29), .ref (a 30), .int kf]) := by rw [hw53]; exact set_ne k45 (by decide)
  have k56 : w52[1]? = some (iA E (a 1) 382 (upd (upd (upd f28 (0 + t0) v30) (48 + t0) (nI n38)) (96 + t0) (nI n48))) := by rw [hw53]; exact set_eq k46
  have kp57 := keeps_set kp47 hw53 (by first | exact rfl | decide | omega | (dsimp only; omega))
  refine x_aload_n C dX12_puts_52 rfl 0 rfl rfl ?_
  refine x_get C (ci := 11) (k := 0) 0 k55 rfl in_X12 (by decide) w_1118 rfl dX12_puts_53 rfl ?_
  refine x_sipush C (v := 144) dX12_puts_56 (by decide) rfl ?_
  refine x_iload_n C dX12_puts_59 rfl 2 rfl rfl ?_
  refine x_iadd C (v := (nI (144 + t0))) dX12_puts_60 (nI_add 144 t0) rfl ?_
  refine x_aload_n C dX12_puts_61 rfl 0 rfl rfl ?_
  refine x_get C (ci := 11) (k := 0) 0 k55 rfl in_X12 (by decide) w_1118 rfl dX12_puts_62 rfl ?_
  refine x_sipush C (v := 144) dX12_puts_65 (by decide) rfl ?_
  refine x_iload_n C dX12_puts_68 rfl 1 rfl rfl ?_
  refine x_iadd C (v := (nI (144 + f0))) dX12_puts_69 (nI_add 144 f0) rfl ?_
  obtain ⟨n58, hn59, en60⟩ := NB_own (j := f0) pf51 (by omega)
  refine x_ialk C (v := nI n58) (144 + f0) (nI_clamp (by omega)) (nI_pos (by omega)) (by omega) 1 k56 en60 dX12_puts_70 rfl ?_
  have pf61 : NB jn (upd (upd (upd (upd f28 (0 + t0) v30) (48 + t0) (nI n38)) (96 + t0) (nI n48)) (144 + t0) (nI n58)) := NB_put_own (j := t0) pf51 (by omega) (by omega)
  obtain ⟨w62, hw63⟩ : ∃ w : va_W, w = List.set w52 1 (iA E (a 1) 382 (upd (upd (upd (upd f28 (0 + t0) v30) (48 + t0) (nI n38)) (96 + t0) (nI n48)) (144 + t0) (nI n58))) := ⟨_, rfl⟩
  refine x_iask C (144 + t0) (nI_clamp (by omega)) (nI_pos (by omega)) (by omega) 1 k56 hw63.symm dX12_puts_71 rfl ?_
  have hW64 : WX (okM E a cd kf jn js jq) w62 := by rw [hw63]; exact hW54.set (k := 1) rfl ⟨_, pf61, rfl⟩
  have k65 : w62[0]? = some (ob (a 0) 11 [.ref (a 1), .ref (a 2), .ref (a 3), .ref (a 4), .int (nI n2), .int (nI n4), .int (nI n6), .int v8, .int v9, .int v10, .int (nI n11), .int (nI n13), .int (nI n15), .int (nI (cd.2.2.2.2.2)), .ref (a 5), .ref (a 6), .ref (a 7), .ref (a 8), .ref (a 9), .ref (a 10), .ref (a 11), .ref (a 12), .ref (a 13), .ref (a 14), .ref (a 15), .ref (a 16), .ref (a 17), .int (nI n17), .ref (a 18), .ref (a 19), .ref (a 20), .ref (a 21), .int v19, .int v20, .int v21, .int v22, .int (nI n23), .int (nI n25), .ref (a 22), .ref (a 23), .ref (a 24), .ref (a 25), .ref (a 26), .ref (a 27), .ref (a 28), .ref (a 29), .ref (a 30), .int kf]) := by rw [hw63]; exact set_ne k55 (by decide)
  have k66 : w62[1]? = some (iA E (a 1) 382 (upd (upd (upd (upd f28 (0 + t0) v30) (48 + t0) (nI n38)) (96 + t0) (nI n48)) (144 + t0) (nI n58))) := by rw [hw63]; exact set_eq k56
  have kp67 := keeps_set kp57 hw63 (by first | exact rfl | decide | omega | (dsimp only; omega))
  refine x_aload_n C dX12_puts_72 rfl 0 rfl rfl ?_
  refine x_get C (ci := 11) (k := 0) 0 k65 rfl in_X12 (by decide) w_1118 rfl dX12_puts_73 rfl ?_
  refine x_sipush C (v := 192) dX12_puts_76 (by decide) rfl ?_
  refine x_iload_n C dX12_puts_79 rfl 2 rfl rfl ?_
  refine x_iadd C (v := (nI (192 + t0))) dX12_puts_80 (nI_add 192 t0) rfl ?_
  refine x_aload_n C dX12_puts_81 rfl 0 rfl rfl ?_
  refine x_get C (ci := 11) (k := 0) 0 k65 rfl in_X12 (by decide) w_1118 rfl dX12_puts_82 rfl ?_
  refine x_sipush C (v := 192) dX12_puts_85 (by decide) rfl ?_
  refine x_iload_n C dX12_puts_88 rfl 1 rfl rfl ?_
  refine x_iadd C (v := (nI (192 + f0))) dX12_puts_89 (nI_add 192 f0) rfl ?_
  refine x_iald C (v := ((upd (upd (upd (upd f28 (0 + t0) v30) (48 + t0) (nI n38)) (96 + t0) (nI n48)) (144 + t0) (nI n58)) (nI (192 + f0)).toNatClampNeg)) 1 k66 (vp_in_nI (by omega) (by decide)) rfl dX12_puts_90 rfl ?_
  refine x_any (fun v68 => ?_)
  have pf69 : NB jn (upd (upd (upd (upd (upd f28 (0 + t0) v30) (48 + t0) (nI n38)) (96 + t0) (nI n48)) (144 + t0) (nI n58)) (192 + t0) v68) := NB_free pf61 (by unfold bd; omega)
  obtain ⟨w70, hw71⟩ : ∃ w : va_W, w = List.set w62 1 (iA E (a 1) 382 (upd (upd (upd (upd (upd f28 (0 + t0) v30) (48 + t0) (nI n38)) (96 + t0) (nI n48)) (144 + t0) (nI n58)) (192 + t0) v68)) := ⟨_, rfl⟩
  refine x_iask C (192 + t0) (nI_clamp (by omega)) (nI_pos (by omega)) (by omega) 1 k66 hw71.symm dX12_puts_91 rfl ?_
  have hW72 : WX (okM E a cd kf jn js jq) w70 := by rw [hw71]; exact hW64.set (k := 1) rfl ⟨_, pf69, rfl⟩
  have k73 : w70[0]? = some (ob (a 0) 11 [.ref (a 1), .ref (a 2), .ref (a 3), .ref (a 4), .int (nI n2), .int (nI n4), .int (nI n6), .int v8, .int v9, .int v10, .int (nI n11), .int (nI n13), .int (nI n15), .int (nI (cd.2.2.2.2.2)), .ref (a 5), .ref (a 6), .ref (a 7), .ref (a 8), .ref (a 9), .ref (a 10), .ref (a 11), .ref (a 12), .ref (a 13), .ref (a 14), .ref (a 15), .ref (a 16), .ref (a 17), .int (nI n17), .ref (a 18), .ref (a 19), .ref (a 20), .ref (a 21), .int v19, .int v20, .int v21, .int v22, .int (nI n23), .int (nI n25), .ref (a 22), .ref (a 23), .ref (a 24), .ref (a 25), .ref (a 26), .ref (a 27), .ref (a 28), .ref (a 29), .ref (a 30), .int kf]) := by rw [hw71]; exact set_ne k65 (by decide)
  have k74 : w70[1]? = some (iA E (a 1) 382 (upd (upd (upd (upd (upd f28 (0 + t0) v30) (48 + t0) (nI n38)) (96 + t0) (nI n48)) (144 + t0) (nI n58)) (192 + t0) v68)) := by rw [hw71]; exact set_eq k66
  have kp75 := keeps_set kp67 hw71 (by first | exact rfl | decide | omega | (dsimp only; omega))
  refine x_aload_n C dX12_puts_92 rfl 0 rfl rfl ?_
  refine x_get C (ci := 11) (k := 0) 0 k73 rfl in_X12 (by decide) w_1118 rfl dX12_puts_93 rfl ?_
  refine x_sipush C (v := 240) dX12_puts_96 (by decide) rfl ?_
  refine x_iload_n C dX12_puts_99 rfl 2 rfl rfl ?_
  refine x_iadd C (v := (nI (240 + t0))) dX12_puts_100 (nI_add 240 t0) rfl ?_
  refine x_aload_n C dX12_puts_101 rfl 0 rfl rfl ?_
  refine x_get C (ci := 11) (k := 0) 0 k73 rfl in_X12 (by decide) w_1118 rfl dX12_puts_102 rfl ?_
  refine x_sipush C (v := 240) dX12_puts_105 (by decide) rfl ?_
  refine x_iload_n C dX12_puts_108 rfl 1 rfl rfl ?_
  refine x_iadd C (v := (nI (240 + f0))) dX12_puts_109 (nI_add 240 f0) rfl ?_
  refine x_iald C (v := ((upd (upd (upd (upd (upd f28 (0 + t0) v30) (48 + t0) (nI n38)) (96 + t0) (nI n48)) (144 + t0) (nI n58)) (192 + t0) v68) (nI (240 + f0)).toNatClampNeg)) 1 k74 (vp_in_nI (by omega) (by decide)) rfl dX12_puts_110 rfl ?_
  refine x_any (fun v76 => ?_)
  have pf77 : NB jn (upd (upd (upd (upd (upd (upd f28 (0 + t0) v30) (48 + t0) (nI n38)) (96 + t0) (nI n48)) (144 + t0) (nI n58)) (192 + t0) v68) (240 + t0) v76) := NB_free pf69 (by unfold bd; omega)
  obtain ⟨w78, hw79⟩ : ∃ w : va_W, w = List.set w70 1 (iA E (a 1) 382 (upd (upd (upd (upd (upd (upd f28 (0 + t0) v30) (48 + t0) (nI n38)) (96 + t0) (nI n48)) (144 + t0) (nI n58)) (192 + t0) v68) (240 + t0) v76)) := ⟨_, rfl⟩
  refine x_iask C (240 + t0) (nI_clamp (by omega)) (nI_pos (by omega)) (by omega) 1 k74 hw79.symm dX12_puts_111 rfl ?_
  have hW80 : WX (okM E a cd kf jn js jq) w78 := by rw [hw79]; exact hW72.set (k := 1) rfl ⟨_, pf77, rfl⟩
  have k81 : w78[0]? = some (ob (a 0) 11 [.ref (a 1), .ref (a 2), .ref (a 3), .ref (a 4), .int (nI n2), .int (nI n4), .int (nI n6), .int v8, .int v9, .int v10, .int (nI n11), .int (nI n13), .int (nI n15), .int (nI (cd.2.2.2.2.2)), .ref (a 5), .ref (a 6), .ref (a 7), .ref (a 8), .ref (a 9), .ref (a 10), .ref (a 11), .ref (a 12), .ref (a 13), .ref (a 14), .ref (a 15), .ref (a 16), .ref (a 17), .int (nI n17), .ref (a 18), .ref (a 19), .ref (a 20), .ref (a 21), .int v19, .int v20, .int v21, .int v22, .int (nI n23), .int (nI n25), .ref (a 22), .ref (a 23), .ref (a 24), .ref (a 25), .ref (a 26), .ref (a 27), .ref (a 28), .ref (a 29), .ref (a 30), .int kf]) := by rw [hw79]; exact set_ne k73 (by decide)
  have k82 : w78[1]? = some (iA E (a 1) 382 (upd (upd (upd (upd (upd (upd f28 (0 + t0) v30) (48 + t0) (nI n38)) (96 + t0) (nI n48)) (144 + t0) (nI n58)) (192 + t0) v68) (240 + t0) v76)) := by rw [hw79]; exact set_eq k74
  have kp83 := keeps_set kp75 hw79 (by first | exact rfl | decide | omega | (dsimp only; omega))
  exact x_vret C hr hlk dX12_puts_112 ⟨hW80, kp83⟩
theorem dX12_clean_0 : decode cX12_clean 0 = .ok (.iconst 0, 1) := by decide +kernel
theorem dX12_clean_1 : decode cX12_clean 1 = .ok (.istore_n 1, 1) := by decide +kernel
theorem dX12_clean_2 : decode cX12_clean 2 = .ok (.iconst 0, 1) := by decide +kernel
theorem dX12_clean_3 : decode cX12_clean 3 = .ok (.istore_n 2, 1) := by decide +kernel
theorem dX12_clean_4 : decode cX12_clean 4 = .ok (.iload_n 2, 1) := by decide +kernel
theorem dX12_clean_5 : decode cX12_clean 5 = .ok (.aload_n 0, 1) := by decide +kernel
theorem dX12_clean_6 : decode cX12_clean 6 = .ok (.getfield 7, 3) := by decide +kernel
theorem dX12_clean_9 : decode cX12_clean 9 = .ok (.sipush 381, 3) := by decide +kernel
theorem dX12_clean_12 : decode cX12_clean 12 = .ok (.iaload, 1) := by decide +kernel
theorem dX12_clean_13 : decode cX12_clean 13 = .ok (.if_icmp .ge 35, 3) := by decide +kernel
theorem dX12_clean_16 : decode cX12_clean 16 = .ok (.aload_n 0, 1) := by decide +kernel
theorem dX12_clean_17 : decode cX12_clean 17 = .ok (.getfield 7, 3) := by decide +kernel
theorem dX12_clean_20 : decode cX12_clean 20 = .ok (.sipush 240, 3) := by decide +kernel
theorem dX12_clean_23 : decode cX12_clean 23 = .ok (.iload_n 2, 1) := by decide +kernel
theorem dX12_clean_24 : decode cX12_clean 24 = .ok (.iadd, 1) := by decide +kernel
theorem dX12_clean_25 : decode cX12_clean 25 = .ok (.iaload, 1) := by decide +kernel
theorem dX12_clean_26 : decode cX12_clean 26 = .ok (.ifCond .eq 6, 3) := by decide +kernel
theorem dX12_clean_29 : decode cX12_clean 29 = .ok (.goto 13, 3) := by decide +kernel
theorem dX12_clean_32 : decode cX12_clean 32 = .ok (.aload_n 0, 1) := by decide +kernel
theorem dX12_clean_33 : decode cX12_clean 33 = .ok (.iload_n 2, 1) := by decide +kernel
theorem dX12_clean_34 : decode cX12_clean 34 = .ok (.iload_n 1, 1) := by decide +kernel
theorem dX12_clean_35 : decode cX12_clean 35 = .ok (.invokevirtual 119, 3) := by decide +kernel
theorem dX12_clean_38 : decode cX12_clean 38 = .ok (.iload_n 1, 1) := by decide +kernel
theorem dX12_clean_39 : decode cX12_clean 39 = .ok (.iconst 1, 1) := by decide +kernel
theorem dX12_clean_40 : decode cX12_clean 40 = .ok (.iadd, 1) := by decide +kernel
theorem dX12_clean_41 : decode cX12_clean 41 = .ok (.istore_n 1, 1) := by decide +kernel
theorem dX12_clean_42 : decode cX12_clean 42 = .ok (.iinc 2 1, 3) := by decide +kernel
theorem dX12_clean_45 : decode cX12_clean 45 = .ok (.goto (-41), 3) := by decide +kernel
theorem dX12_clean_48 : decode cX12_clean 48 = .ok (.aload_n 0, 1) := by decide +kernel
theorem dX12_clean_49 : decode cX12_clean 49 = .ok (.getfield 7, 3) := by decide +kernel
theorem dX12_clean_52 : decode cX12_clean 52 = .ok (.sipush 381, 3) := by decide +kernel
theorem dX12_clean_55 : decode cX12_clean 55 = .ok (.iaload, 1) := by decide +kernel
theorem dX12_clean_56 : decode cX12_clean 56 = .ok (.iload_n 1, 1) := by decide +kernel
theorem dX12_clean_57 : decode cX12_clean 57 = .ok (.isub, 1) := by decide +kernel
theorem dX12_clean_58 : decode cX12_clean 58 = .ok (.istore_n 2, 1) := by decide +kernel
theorem dX12_clean_59 : decode cX12_clean 59 = .ok (.aload_n 0, 1) := by decide +kernel
theorem dX12_clean_60 : decode cX12_clean 60 = .ok (.getfield 7, 3) := by decide +kernel
theorem dX12_clean_63 : decode cX12_clean 63 = .ok (.sipush 381, 3) := by decide +kernel
theorem dX12_clean_66 : decode cX12_clean 66 = .ok (.iload_n 1, 1) := by decide +kernel
theorem dX12_clean_67 : decode cX12_clean 67 = .ok (.iastore, 1) := by decide +kernel
theorem dX12_clean_68 : decode cX12_clean 68 = .ok (.iload_n 2, 1) := by decide +kernel
theorem dX12_clean_69 : decode cX12_clean 69 = .ok (.ireturn, 1) := by decide +kernel
set_option maxRecDepth 20000 in
set_option maxHeartbeats 4000000 in
theorem m_clean (E : xE) (l : Launch) (a : Nat → Nat) (cd : Cd) (hG : Good cd) (kf : Int32) (jn js jq : Lb) (ws : va_W) (hW : WX (okM E a cd kf jn js jq) ws) : xI E l yX12_clean cX12_clean 3 (some .int) 8 [.ref (a 0)] ws (fun r w => WX (okM E a cd kf jn js jq) w) := by
  refine xI_start (lv := [(0, .ref (a 0))]) RX12 (by decide) rfl (Nat.le_of_ble_eq_true rfl) rfl (fun p e s m below meth c A C hr hlk => ?_)
  refine x_iconst C (v := 0) dX12_clean_0 (by decide) rfl ?_
  refine x_istore_n C (lv' := [(1, .int 0), (0, .ref (a 0))]) dX12_clean_1 rfl (by decide) rfl rfl ?_
  refine x_iconst C (v := 0) dX12_clean_2 (by decide) rfl ?_
  refine x_istore_n C (lv' := [(2, .int 0), (1, .int 0), (0, .ref (a 0))]) dX12_clean_3 rfl (by decide) rfl rfl ?_
  have loop4 : ∀ (fu4 : Nat) (lf : Nat) (i : Nat) (wl4 : va_W), WX (okM E a cd kf jn js jq) wl4 → 48 - i < fu4 → lf ≤ i → i ≤ 48 → X E p l e (xRm 8 0 0) s m ([.ref (a 0)] : List Value).toArray below meth c A 3 0 0 (MQ below (va_Qi (fun r w => WX (okM E a cd kf jn js jq) w) (xB E A) A) ([.ref (a 0)] : List Value).toArray s 0 0 A) wl4 4 [(0, .ref (a 0)), (1, .int (nI lf)), (2, .int (nI i))] [] := by
    intro fu4
    induction fu4 with
    | zero => intro lf i wl4 _ q; omega
    | succ fu4 ih4 =>
      intro lf i wl4 hWl4 me4 iv4_0 iv4_1
      refine x_iload_n C dX12_clean_4 rfl 2 rfl rfl ?_
      refine x_aload_n C dX12_clean_5 rfl 0 rfl rfl ?_
      obtain ⟨_, k1, n2, n4, n6, v8, v9, v10, n11, n13, n15, n17, v19, v20, v21, v22, n23, n25, bn3, bn5, bn7, bn12, bn14, bn16, bn18, bn24, bn26, rfl⟩ := hWl4 0 _ rfl
      refine x_get C (ci := 11) (k := 0) 0 k1 rfl in_X12 (by decide) w_1118 rfl dX12_clean_6 rfl ?_
      refine x_sipush C (v := 381) dX12_clean_9 (by decide) rfl ?_
      obtain ⟨_, k27, f28, pf29, rfl⟩ := hWl4 1 _ rfl
      obtain ⟨n30, hn31, en32⟩ := NB_many pf29
      refine x_ialk C (v := nI n30) 381 (by decide) (by decide) (by decide) 1 k27 en32 dX12_clean_12 rfl ?_
      refine x_icmp_ge C (tgt := 48) dX12_clean_13 (by decide) rfl (fun c33 => ?_) (fun c33 => ?_)
      · skip
        have nf34 := nI_le' (a := n30) (b := i) c33 (by omega) (by omega)
        refine x_aload_n C dX12_clean_48 rfl 0 rfl rfl ?_
        refine x_get C (ci := 11) (k := 0) 0 k1 rfl in_X12 (by decide) w_1118 rfl dX12_clean_49 rfl ?_
        refine x_sipush C (v := 381) dX12_clean_52 (by decide) rfl ?_
        refine x_ialk C (v := nI n30) 381 (by decide) (by decide) (by decide) 1 k27 en32 dX12_clean_55 rfl ?_
        refine x_iload_n C dX12_clean_56 rfl 1 rfl rfl ?_
        refine x_isub C (v := ((nI n30) - (nI lf))) dX12_clean_57 rfl rfl ?_
        refine x_any (fun v38 => ?_)
        refine x_istore_n C (lv' := [(2, .int v38), (0, .ref (a 0)), (1, .int (nI lf))]) dX12_clean_58 rfl (by decide) rfl rfl ?_
        refine x_aload_n C dX12_clean_59 rfl 1 rfl rfl ?_
        refine x_get C (ci := 11) (k := 0) 0 k1 rfl in_X12 (by decide) w_1118 rfl dX12_clean_60 rfl ?_
        refine x_sipush C (v := 381) dX12_clean_63 (by decide) rfl ?_
        refine x_iload_n C dX12_clean_66 rfl 2 rfl rfl ?_
        have pf39 : NB jn (upd f28 381 (nI lf)) := NB_put_many pf29 (by omega)
        obtain ⟨w40, hw41⟩ : ∃ w : va_W, w = List.set wl4 1 (iA E (a 1) 382 (upd f28 381 (nI lf))) := ⟨_, rfl⟩
        refine x_iask C 381 (by decide) (by decide) (by decide) 1 k27 hw41.symm dX12_clean_67 rfl ?_
        have hW42 : WX (okM E a cd kf jn js jq) w40 := by rw [hw41]; exact hWl4.set (k := 1) rfl ⟨_, pf39, rfl⟩
        have k43 : w40[0]? = some (ob (a 0) 11 [.ref (a 1), .ref (a 2), .ref (a 3), .ref (a 4), .int (nI n2), .int (nI n4), .int (nI n6), .int v8, .int v9, .int v10, .int (nI n11), .int (nI n13), .int (nI n15), .int (nI (cd.2.2.2.2.2)), .ref (a 5), .ref (a 6), .ref (a 7), .ref (a 8), .ref (a 9), .ref (a 10), .ref (a 11), .ref (a 12), .ref (a 13), .ref (a 14), .ref (a 15), .ref (a 16), .ref (a 17), .int (nI n17), .ref (a 18), .ref (a 19), .ref (a 20), .ref (a 21), .int v19, .int v20, .int v21, .int v22, .int (nI n23), .int (nI n25), .ref (a 22), .ref (a 23), .ref (a 24), .ref (a 25), .ref (a 26), .ref (a 27), .ref (a 28), .ref (a 29), .ref (a 30), .int kf]) := by rw [hw41]; exact set_ne k1 (by decide)
        have k44 : w40[1]? = some (iA E (a 1) 382 (upd f28 381 (nI lf))) := by rw [hw41]; exact set_eq k27
        refine x_iload_n C dX12_clean_68 rfl 0 rfl rfl ?_
        exact x_zret C hr hlk rfl dX12_clean_69 hW42
      · skip
        have nf45 := nI_nle' (a := n30) (b := i) c33 (by omega) (by omega)
        refine x_aload_n C dX12_clean_16 rfl 0 rfl rfl ?_
        refine x_get C (ci := 11) (k := 0) 0 k1 rfl in_X12 (by decide) w_1118 rfl dX12_clean_17 rfl ?_
        refine x_sipush C (v := 240) dX12_clean_20 (by decide) rfl ?_
        refine x_iload_n C dX12_clean_23 rfl 2 rfl rfl ?_
        refine x_iadd C (v := (nI (240 + i))) dX12_clean_24 (nI_add 240 i) rfl ?_
        refine x_iald C (v := (f28 (nI (240 + i)).toNatClampNeg)) 1 k27 (vp_in_nI (by omega) (by decide)) rfl dX12_clean_25 rfl ?_
        refine x_any (fun v46 => ?_)
        refine x_if_eq C (tgt := 32) dX12_clean_26 (by decide) rfl (fun c47 => ?_) (fun c47 => ?_)
        · skip
          refine x_aload_n C dX12_clean_32 rfl 0 rfl rfl ?_
          refine x_iload_n C dX12_clean_33 rfl 2 rfl rfl ?_
          refine x_iload_n C dX12_clean_34 rfl 1 rfl rfl ?_
          refine x_vv C (As := [.int (nI i), .int (nI lf)]) (rest := []) (m_puts E l a cd hG kf jn js jq wl4 hWl4 i lf (by omega) (by omega)) mf_X12_puts w_1297 0 k1 rfl rfl rfl (Nat.le_of_ble_eq_true rfl) ⟨(Nat.le_of_ble_eq_true rfl), (Nat.le_of_ble_eq_true rfl)⟩ ⟨(Nat.le_of_ble_eq_true rfl), (Nat.le_of_ble_eq_true rfl)⟩ dX12_clean_35 rfl (fun w50 h48 => ?_)
          obtain ⟨hW51, kq52⟩ := h48
          have k53 : w50[0]? = some (ob (a 0) 11 [.ref (a 1), .ref (a 2), .ref (a 3), .ref (a 4), .int (nI n2), .int (nI n4), .int (nI n6), .int v8, .int v9, .int v10, .int (nI n11), .int (nI n13), .int (nI n15), .int (nI (cd.2.2.2.2.2)), .ref (a 5), .ref (a 6), .ref (a 7), .ref (a 8), .ref (a 9), .ref (a 10), .ref (a 11), .ref (a 12), .ref (a 13), .ref (a 14), .ref (a 15), .ref (a 16), .ref (a 17), .int (nI n17), .ref (a 18), .ref (a 19), .ref (a 20), .ref (a 21), .int v19, .int v20, .int v21, .int v22, .int (nI n23), .int (nI n25), .ref (a 22), .ref (a 23), .ref (a 24), .ref (a 25), .ref (a 26), .ref (a 27), .ref (a 28), .ref (a 29), .ref (a 30), .int kf]) := keeps_at kq52 k1 (by first | decide | omega | (dsimp only; omega))
          refine x_iload_n C dX12_clean_38 rfl 1 rfl rfl ?_
          refine x_iconst C (v := 1) dX12_clean_39 (by decide) rfl ?_
          refine x_iadd C (v := (nI (lf + 1))) dX12_clean_40 (nI_add lf 1) rfl ?_
          refine x_istore_n C (lv' := [(1, .int (nI (lf + 1))), (0, .ref (a 0)), (2, .int (nI i))]) dX12_clean_41 rfl (by decide) rfl rfl ?_
          refine x_iinc C (v := (nI (i + 1))) (lv' := [(2, .int (nI (i + 1))), (1, .int (nI (lf + 1))), (0, .ref (a 0))]) dX12_clean_42 2 rfl (nI_add i 1) (by decide) rfl rfl ?_
          refine x_goto C (tgt := 4) dX12_clean_45 (by decide) ?_
          refine x_lv (lv1 := [(0, .ref (a 0)), (1, .int (nI (lf + 1))), (2, .int (nI (i + 1)))]) [2, 1, 0] rfl ?_
          exact ih4 (lf + 1) (i + 1) w50 hW51 (by omega) (by omega) (by omega)
        · skip
          refine x_goto C (tgt := 42) dX12_clean_29 (by decide) ?_
          refine x_iinc C (v := (nI (i + 1))) (lv' := [(2, .int (nI (i + 1))), (0, .ref (a 0)), (1, .int (nI lf))]) dX12_clean_42 2 rfl (nI_add i 1) (by decide) rfl rfl ?_
          refine x_goto C (tgt := 4) dX12_clean_45 (by decide) ?_
          refine x_lv (lv1 := [(0, .ref (a 0)), (1, .int (nI lf)), (2, .int (nI (i + 1)))]) [1, 2, 0] rfl ?_
          exact ih4 lf (i + 1) wl4 hWl4 (by omega) (by omega) (by omega)
  refine x_lv (lv1 := [(0, .ref (a 0)), (1, .int 0), (2, .int 0)]) [2, 1, 0] rfl ?_
  exact loop4 _ 0 0 ws hW (Nat.lt_succ_self _) (by omega) (by omega)
theorem dX12_copies_0 : decode cX12_copies 0 = .ok (.iconst 0, 1) := by decide +kernel
theorem dX12_copies_1 : decode cX12_copies 1 = .ok (.istore_n 2, 1) := by decide +kernel
theorem dX12_copies_2 : decode cX12_copies 2 = .ok (.iload_n 2, 1) := by decide +kernel
theorem dX12_copies_3 : decode cX12_copies 3 = .ok (.sipush 382, 3) := by decide +kernel
theorem dX12_copies_6 : decode cX12_copies 6 = .ok (.if_icmp .ge 15, 3) := by decide +kernel
theorem dX12_copies_9 : decode cX12_copies 9 = .ok (.aload_n 1, 1) := by decide +kernel
theorem dX12_copies_10 : decode cX12_copies 10 = .ok (.iload_n 2, 1) := by decide +kernel
theorem dX12_copies_11 : decode cX12_copies 11 = .ok (.aload_n 0, 1) := by decide +kernel
theorem dX12_copies_12 : decode cX12_copies 12 = .ok (.iload_n 2, 1) := by decide +kernel
theorem dX12_copies_13 : decode cX12_copies 13 = .ok (.iaload, 1) := by decide +kernel
theorem dX12_copies_14 : decode cX12_copies 14 = .ok (.iastore, 1) := by decide +kernel
theorem dX12_copies_15 : decode cX12_copies 15 = .ok (.iinc 2 1, 3) := by decide +kernel
theorem dX12_copies_18 : decode cX12_copies 18 = .ok (.goto (-16), 3) := by decide +kernel
theorem dX12_copies_21 : decode cX12_copies 21 = .ok (.return_, 1) := by decide +kernel
set_option maxRecDepth 20000 in
set_option maxHeartbeats 4000000 in
theorem m_copies12 (E : xE) (l : Launch) (a : Nat → Nat) (cd : Cd) (hG : Good cd) (kf : Int32) (jn js jq : Lb) (ws : va_W) (hW : WX (okM E a cd kf jn js jq) ws) : xV E l yX12_copies cX12_copies 3 0 0 0 [.ref (a 1), .ref (a 2)] ws (fun w => WX (okM E a cd kf jn jn jq) w ∧ keeps ws w (fun q => q = 2)) := by
  refine xV_start (lv := [(0, .ref (a 1)), (1, .ref (a 2))]) RX12 (by decide) rfl (Nat.le_of_ble_eq_true rfl) rfl (fun p e s m below meth c A C hr hlk hin => ?_)
  have kp0 : keeps ws ws (fun q => q = 2) := keeps_rf
  obtain ⟨_, k1, f2, pf3, rfl⟩ := hW 1 _ rfl
  have hW0 := wxW_s hW
  obtain ⟨_, k4, f5, pf6, rfl⟩ := hW0 2 _ rfl
  refine x_iconst C (v := 0) dX12_copies_0 (by decide) rfl ?_
  refine x_istore_n C (lv' := [(2, .int 0), (0, .ref (a 1)), (1, .ref (a 2))]) dX12_copies_1 rfl (by decide) rfl rfl ?_
  have loop2 : ∀ (fu2 : Nat) (k : Nat) (wl2 : va_W), WX (okM E a cd kf jn none jq) wl2 → 382 - k < fu2 → k ≤ 382 → wl2[1]? = some (iA E (a 1) 382 f2) → (∃ g : Nat → Int32, NB none g ∧ wl2[2]? = some (iA E (a 2) 382 g) ∧ ∀ j, j < k → g j = f2 j) → keeps ws wl2 (fun q => q = 2) → X E p l e (xRm 0 0 0) s m ([.ref (a 1), .ref (a 2)] : List Value).toArray below meth c A 3 0 0 (MQ below (va_Qv (fun w => WX (okM E a cd kf jn jn jq) w ∧ keeps ws w (fun q => q = 2)) (xB E A) A) ([.ref (a 1), .ref (a 2)] : List Value).toArray s 0 0 A) wl2 2 [(0, .ref (a 1)), (1, .ref (a 2)), (2, .int (nI k))] [] := by
    intro fu2
    induction fu2 with
    | zero => intro k wl2 _ q; omega
    | succ fu2 ih2 =>
      intro k wl2 hWl2 me2 iv2_0 iv2_1 iv2_2 kq2
      obtain ⟨g7, pf8, k9, hz10⟩ := iv2_2
      refine x_iload_n C dX12_copies_2 rfl 2 rfl rfl ?_
      refine x_sipush C (v := 382) dX12_copies_3 (by decide) rfl ?_
      refine x_icmp_ge C (tgt := 21) dX12_copies_6 (by decide) rfl (fun c11 => ?_) (fun c11 => ?_)
      · skip
        have nf12 := nI_le' (a := 382) (b := k) c11 (by omega) (by omega)
        exact x_vret C hr hlk dX12_copies_21 ⟨(wxL_s hWl2 ⟨_, NB_all pf3 (fun j hj => hz10 j (by omega)), k9⟩), kq2⟩
      · skip
        have nf13 := nI_nle' (a := 382) (b := k) c11 (by omega) (by omega)
        refine x_aload_n C dX12_copies_9 rfl 1 rfl rfl ?_
        refine x_iload_n C dX12_copies_10 rfl 2 rfl rfl ?_
        refine x_aload_n C dX12_copies_11 rfl 0 rfl rfl ?_
        refine x_iload_n C dX12_copies_12 rfl 2 rfl rfl ?_
        refine x_ialk C (v := (f2 k)) k (nI_clamp (by omega)) (nI_pos (by omega)) (by omega) 1 iv2_1 rfl dX12_copies_13 rfl ?_
        have pf14 : NB none (upd g7 k (f2 k)) := NB_mix pf3 pf8
        obtain ⟨w15, hw16⟩ : ∃ w : va_W, w = List.set wl2 2 (iA E (a 2) 382 (upd g7 k (f2 k))) := ⟨_, rfl⟩
        refine x_iask C k (nI_clamp (by omega)) (nI_pos (by omega)) (by omega) 2 k9 hw16.symm dX12_copies_14 rfl ?_
        have hW17 : WX (okM E a cd kf jn none jq) w15 := by rw [hw16]; exact hWl2.set (k := 2) rfl ⟨_, pf14, rfl⟩
        have k18 : w15[1]? = some (iA E (a 1) 382 f2) := by rw [hw16]; exact set_ne iv2_1 (by decide)
        have k19 : w15[2]? = some (iA E (a 2) 382 (upd g7 k (f2 k))) := by rw [hw16]; exact set_eq k9
        have kp20 := keeps_set kq2 hw16 (by first | exact rfl | decide | omega | (dsimp only; omega))
        refine x_iinc C (v := (nI (k + 1))) (lv' := [(2, .int (nI (k + 1))), (0, .ref (a 1)), (1, .ref (a 2))]) dX12_copies_15 2 rfl (nI_add k 1) (by decide) rfl rfl ?_
        refine x_goto C (tgt := 2) dX12_copies_18 (by decide) ?_
        refine x_lv (lv1 := [(0, .ref (a 1)), (1, .ref (a 2)), (2, .int (nI (k + 1)))]) [1, 2, 0] rfl ?_
        exact ih2 (k + 1) w15 hW17 (by omega) (by omega) k18 ⟨_, pf14, k19, cpy_st hz10⟩ kp20
  refine x_lv (lv1 := [(0, .ref (a 1)), (1, .ref (a 2)), (2, .int 0)]) [1, 2, 0] rfl ?_
  exact loop2 _ 0 ws hW0 (Nat.lt_succ_self _) (by omega) k1 ⟨_, pf6, k4, fun j hj => absurd hj (by omega)⟩ kp0
set_option maxRecDepth 20000 in
set_option maxHeartbeats 4000000 in
theorem m_copies13 (E : xE) (l : Launch) (a : Nat → Nat) (cd : Cd) (hG : Good cd) (kf : Int32) (jn js jq : Lb) (ws : va_W) (hW : WX (okM E a cd kf jn js jq) ws) : xV E l yX12_copies cX12_copies 3 0 0 0 [.ref (a 1), .ref (a 3)] ws (fun w => WX (okM E a cd kf jn js jn) w ∧ keeps ws w (fun q => q = 3)) := by
  refine xV_start (lv := [(0, .ref (a 1)), (1, .ref (a 3))]) RX12 (by decide) rfl (Nat.le_of_ble_eq_true rfl) rfl (fun p e s m below meth c A C hr hlk hin => ?_)
  have kp0 : keeps ws ws (fun q => q = 3) := keeps_rf
  obtain ⟨_, k1, f2, pf3, rfl⟩ := hW 1 _ rfl
  have hW0 := wxW_q hW
  obtain ⟨_, k4, f5, pf6, rfl⟩ := hW0 3 _ rfl
  refine x_iconst C (v := 0) dX12_copies_0 (by decide) rfl ?_
  refine x_istore_n C (lv' := [(2, .int 0), (0, .ref (a 1)), (1, .ref (a 3))]) dX12_copies_1 rfl (by decide) rfl rfl ?_
  have loop2 : ∀ (fu2 : Nat) (k : Nat) (wl2 : va_W), WX (okM E a cd kf jn js none) wl2 → 382 - k < fu2 → k ≤ 382 → wl2[1]? = some (iA E (a 1) 382 f2) → (∃ g : Nat → Int32, NB none g ∧ wl2[3]? = some (iA E (a 3) 382 g) ∧ ∀ j, j < k → g j = f2 j) → keeps ws wl2 (fun q => q = 3) → X E p l e (xRm 0 0 0) s m ([.ref (a 1), .ref (a 3)] : List Value).toArray below meth c A 3 0 0 (MQ below (va_Qv (fun w => WX (okM E a cd kf jn js jn) w ∧ keeps ws w (fun q => q = 3)) (xB E A) A) ([.ref (a 1), .ref (a 3)] : List Value).toArray s 0 0 A) wl2 2 [(0, .ref (a 1)), (1, .ref (a 3)), (2, .int (nI k))] [] := by
    intro fu2
    induction fu2 with
    | zero => intro k wl2 _ q; omega
    | succ fu2 ih2 =>
      intro k wl2 hWl2 me2 iv2_0 iv2_1 iv2_2 kq2
      obtain ⟨g7, pf8, k9, hz10⟩ := iv2_2
      refine x_iload_n C dX12_copies_2 rfl 2 rfl rfl ?_
      refine x_sipush C (v := 382) dX12_copies_3 (by decide) rfl ?_
      refine x_icmp_ge C (tgt := 21) dX12_copies_6 (by decide) rfl (fun c11 => ?_) (fun c11 => ?_)
      · skip
        have nf12 := nI_le' (a := 382) (b := k) c11 (by omega) (by omega)
        exact x_vret C hr hlk dX12_copies_21 ⟨(wxL_q hWl2 ⟨_, NB_all pf3 (fun j hj => hz10 j (by omega)), k9⟩), kq2⟩
      · skip
        have nf13 := nI_nle' (a := 382) (b := k) c11 (by omega) (by omega)
        refine x_aload_n C dX12_copies_9 rfl 1 rfl rfl ?_
        refine x_iload_n C dX12_copies_10 rfl 2 rfl rfl ?_
        refine x_aload_n C dX12_copies_11 rfl 0 rfl rfl ?_
        refine x_iload_n C dX12_copies_12 rfl 2 rfl rfl ?_
        refine x_ialk C (v := (f2 k)) k (nI_clamp (by omega)) (nI_pos (by omega)) (by omega) 1 iv2_1 rfl dX12_copies_13 rfl ?_
        have pf14 : NB none (upd g7 k (f2 k)) := NB_mix pf3 pf8
        obtain ⟨w15, hw16⟩ : ∃ w : va_W, w = List.set wl2 3 (iA E (a 3) 382 (upd g7 k (f2 k))) := ⟨_, rfl⟩
        refine x_iask C k (nI_clamp (by omega)) (nI_pos (by omega)) (by omega) 3 k9 hw16.symm dX12_copies_14 rfl ?_
        have hW17 : WX (okM E a cd kf jn js none) w15 := by rw [hw16]; exact hWl2.set (k := 3) rfl ⟨_, pf14, rfl⟩
        have k18 : w15[1]? = some (iA E (a 1) 382 f2) := by rw [hw16]; exact set_ne iv2_1 (by decide)
        have k19 : w15[3]? = some (iA E (a 3) 382 (upd g7 k (f2 k))) := by rw [hw16]; exact set_eq k9
        have kp20 := keeps_set kq2 hw16 (by first | exact rfl | decide | omega | (dsimp only; omega))
        refine x_iinc C (v := (nI (k + 1))) (lv' := [(2, .int (nI (k + 1))), (0, .ref (a 1)), (1, .ref (a 3))]) dX12_copies_15 2 rfl (nI_add k 1) (by decide) rfl rfl ?_
        refine x_goto C (tgt := 2) dX12_copies_18 (by decide) ?_
        refine x_lv (lv1 := [(0, .ref (a 1)), (1, .ref (a 3)), (2, .int (nI (k + 1)))]) [1, 2, 0] rfl ?_
        exact ih2 (k + 1) w15 hW17 (by omega) (by omega) k18 ⟨_, pf14, k19, cpy_st hz10⟩ kp20
  refine x_lv (lv1 := [(0, .ref (a 1)), (1, .ref (a 3)), (2, .int 0)]) [1, 2, 0] rfl ?_
  exact loop2 _ 0 ws hW0 (Nat.lt_succ_self _) (by omega) k1 ⟨_, pf6, k4, fun j hj => absurd hj (by omega)⟩ kp0
set_option maxRecDepth 20000 in
set_option maxHeartbeats 4000000 in
theorem m_copies31 (E : xE) (l : Launch) (a : Nat → Nat) (cd : Cd) (hG : Good cd) (kf : Int32) (jn js jq : Lb) (ws : va_W) (hW : WX (okM E a cd kf jn js jq) ws) : xV E l yX12_copies cX12_copies 3 0 0 0 [.ref (a 3), .ref (a 1)] ws (fun w => WX (okM E a cd kf jq js jq) w ∧ keeps ws w (fun q => q = 1)) := by
  refine xV_start (lv := [(0, .ref (a 3)), (1, .ref (a 1))]) RX12 (by decide) rfl (Nat.le_of_ble_eq_true rfl) rfl (fun p e s m below meth c A C hr hlk hin => ?_)
  have kp0 : keeps ws ws (fun q => q = 1) := keeps_rf
  obtain ⟨_, k1, f2, pf3, rfl⟩ := hW 3 _ rfl
  have hW0 := wxW_n hW
  obtain ⟨_, k4, f5, pf6, rfl⟩ := hW0 1 _ rfl
  refine x_iconst C (v := 0) dX12_copies_0 (by decide) rfl ?_
  refine x_istore_n C (lv' := [(2, .int 0), (0, .ref (a 3)), (1, .ref (a 1))]) dX12_copies_1 rfl (by decide) rfl rfl ?_
  have loop2 : ∀ (fu2 : Nat) (k : Nat) (wl2 : va_W), WX (okM E a cd kf none js jq) wl2 → 382 - k < fu2 → k ≤ 382 → wl2[3]? = some (iA E (a 3) 382 f2) → (∃ g : Nat → Int32, NB none g ∧ wl2[1]? = some (iA E (a 1) 382 g) ∧ ∀ j, j < k → g j = f2 j) → keeps ws wl2 (fun q => q = 1) → X E p l e (xRm 0 0 0) s m ([.ref (a 3), .ref (a 1)] : List Value).toArray below meth c A 3 0 0 (MQ below (va_Qv (fun w => WX (okM E a cd kf jq js jq) w ∧ keeps ws w (fun q => q = 1)) (xB E A) A) ([.ref (a 3), .ref (a 1)] : List Value).toArray s 0 0 A) wl2 2 [(0, .ref (a 3)), (1, .ref (a 1)), (2, .int (nI k))] [] := by
    intro fu2
    induction fu2 with
    | zero => intro k wl2 _ q; omega
    | succ fu2 ih2 =>
      intro k wl2 hWl2 me2 iv2_0 iv2_1 iv2_2 kq2
      obtain ⟨g7, pf8, k9, hz10⟩ := iv2_2
      refine x_iload_n C dX12_copies_2 rfl 2 rfl rfl ?_
      refine x_sipush C (v := 382) dX12_copies_3 (by decide) rfl ?_
      refine x_icmp_ge C (tgt := 21) dX12_copies_6 (by decide) rfl (fun c11 => ?_) (fun c11 => ?_)
      · skip
        have nf12 := nI_le' (a := 382) (b := k) c11 (by omega) (by omega)
        exact x_vret C hr hlk dX12_copies_21 ⟨(wxL_n hWl2 ⟨_, NB_all pf3 (fun j hj => hz10 j (by omega)), k9⟩), kq2⟩
      · skip
        have nf13 := nI_nle' (a := 382) (b := k) c11 (by omega) (by omega)
        refine x_aload_n C dX12_copies_9 rfl 1 rfl rfl ?_
        refine x_iload_n C dX12_copies_10 rfl 2 rfl rfl ?_
        refine x_aload_n C dX12_copies_11 rfl 0 rfl rfl ?_
        refine x_iload_n C dX12_copies_12 rfl 2 rfl rfl ?_
        refine x_ialk C (v := (f2 k)) k (nI_clamp (by omega)) (nI_pos (by omega)) (by omega) 3 iv2_1 rfl dX12_copies_13 rfl ?_
        have pf14 : NB none (upd g7 k (f2 k)) := NB_mix pf3 pf8
        obtain ⟨w15, hw16⟩ : ∃ w : va_W, w = List.set wl2 1 (iA E (a 1) 382 (upd g7 k (f2 k))) := ⟨_, rfl⟩
        refine x_iask C k (nI_clamp (by omega)) (nI_pos (by omega)) (by omega) 1 k9 hw16.symm dX12_copies_14 rfl ?_
        have hW17 : WX (okM E a cd kf none js jq) w15 := by rw [hw16]; exact hWl2.set (k := 1) rfl ⟨_, pf14, rfl⟩
        have k18 : w15[3]? = some (iA E (a 3) 382 f2) := by rw [hw16]; exact set_ne iv2_1 (by decide)
        have k19 : w15[1]? = some (iA E (a 1) 382 (upd g7 k (f2 k))) := by rw [hw16]; exact set_eq k9
        have kp20 := keeps_set kq2 hw16 (by first | exact rfl | decide | omega | (dsimp only; omega))
        refine x_iinc C (v := (nI (k + 1))) (lv' := [(2, .int (nI (k + 1))), (0, .ref (a 3)), (1, .ref (a 1))]) dX12_copies_15 2 rfl (nI_add k 1) (by decide) rfl rfl ?_
        refine x_goto C (tgt := 2) dX12_copies_18 (by decide) ?_
        refine x_lv (lv1 := [(0, .ref (a 3)), (1, .ref (a 1)), (2, .int (nI (k + 1)))]) [1, 2, 0] rfl ?_
        exact ih2 (k + 1) w15 hW17 (by omega) (by omega) k18 ⟨_, pf14, k19, cpy_st hz10⟩ kp20
  refine x_lv (lv1 := [(0, .ref (a 3)), (1, .ref (a 1)), (2, .int 0)]) [1, 2, 0] rfl ?_
  exact loop2 _ 0 ws hW0 (Nat.lt_succ_self _) (by omega) k1 ⟨_, pf6, k4, fun j hj => absurd hj (by omega)⟩ kp0
set_option maxRecDepth 20000 in
set_option maxHeartbeats 4000000 in
theorem m_copies21 (E : xE) (l : Launch) (a : Nat → Nat) (cd : Cd) (hG : Good cd) (kf : Int32) (jn js jq : Lb) (ws : va_W) (hW : WX (okM E a cd kf jn js jq) ws) : xV E l yX12_copies cX12_copies 3 0 0 0 [.ref (a 2), .ref (a 1)] ws (fun w => WX (okM E a cd kf js js jq) w ∧ keeps ws w (fun q => q = 1)) := by
  refine xV_start (lv := [(0, .ref (a 2)), (1, .ref (a 1))]) RX12 (by decide) rfl (Nat.le_of_ble_eq_true rfl) rfl (fun p e s m below meth c A C hr hlk hin => ?_)
  have kp0 : keeps ws ws (fun q => q = 1) := keeps_rf
  obtain ⟨_, k1, f2, pf3, rfl⟩ := hW 2 _ rfl
  have hW0 := wxW_n hW
  obtain ⟨_, k4, f5, pf6, rfl⟩ := hW0 1 _ rfl
  refine x_iconst C (v := 0) dX12_copies_0 (by decide) rfl ?_
  refine x_istore_n C (lv' := [(2, .int 0), (0, .ref (a 2)), (1, .ref (a 1))]) dX12_copies_1 rfl (by decide) rfl rfl ?_
  have loop2 : ∀ (fu2 : Nat) (k : Nat) (wl2 : va_W), WX (okM E a cd kf none js jq) wl2 → 382 - k < fu2 → k ≤ 382 → wl2[2]? = some (iA E (a 2) 382 f2) → (∃ g : Nat → Int32, NB none g ∧ wl2[1]? = some (iA E (a 1) 382 g) ∧ ∀ j, j < k → g j = f2 j) → keeps ws wl2 (fun q => q = 1) → X E p l e (xRm 0 0 0) s m ([.ref (a 2), .ref (a 1)] : List Value).toArray below meth c A 3 0 0 (MQ below (va_Qv (fun w => WX (okM E a cd kf js js jq) w ∧ keeps ws w (fun q => q = 1)) (xB E A) A) ([.ref (a 2), .ref (a 1)] : List Value).toArray s 0 0 A) wl2 2 [(0, .ref (a 2)), (1, .ref (a 1)), (2, .int (nI k))] [] := by
    intro fu2
    induction fu2 with
    | zero => intro k wl2 _ q; omega
    | succ fu2 ih2 =>
      intro k wl2 hWl2 me2 iv2_0 iv2_1 iv2_2 kq2
      obtain ⟨g7, pf8, k9, hz10⟩ := iv2_2
      refine x_iload_n C dX12_copies_2 rfl 2 rfl rfl ?_
      refine x_sipush C (v := 382) dX12_copies_3 (by decide) rfl ?_
      refine x_icmp_ge C (tgt := 21) dX12_copies_6 (by decide) rfl (fun c11 => ?_) (fun c11 => ?_)
      · skip
        have nf12 := nI_le' (a := 382) (b := k) c11 (by omega) (by omega)
        exact x_vret C hr hlk dX12_copies_21 ⟨(wxL_n hWl2 ⟨_, NB_all pf3 (fun j hj => hz10 j (by omega)), k9⟩), kq2⟩
      · skip
        have nf13 := nI_nle' (a := 382) (b := k) c11 (by omega) (by omega)
        refine x_aload_n C dX12_copies_9 rfl 1 rfl rfl ?_
        refine x_iload_n C dX12_copies_10 rfl 2 rfl rfl ?_
        refine x_aload_n C dX12_copies_11 rfl 0 rfl rfl ?_
        refine x_iload_n C dX12_copies_12 rfl 2 rfl rfl ?_
        refine x_ialk C (v := (f2 k)) k (nI_clamp (by omega)) (nI_pos (by omega)) (by omega) 2 iv2_1 rfl dX12_copies_13 rfl ?_
        have pf14 : NB none (upd g7 k (f2 k)) := NB_mix pf3 pf8
        obtain ⟨w15, hw16⟩ : ∃ w : va_W, w = List.set wl2 1 (iA E (a 1) 382 (upd g7 k (f2 k))) := ⟨_, rfl⟩
        refine x_iask C k (nI_clamp (by omega)) (nI_pos (by omega)) (by omega) 1 k9 hw16.symm dX12_copies_14 rfl ?_
        have hW17 : WX (okM E a cd kf none js jq) w15 := by rw [hw16]; exact hWl2.set (k := 1) rfl ⟨_, pf14, rfl⟩
        have k18 : w15[2]? = some (iA E (a 2) 382 f2) := by rw [hw16]; exact set_ne iv2_1 (by decide)
        have k19 : w15[1]? = some (iA E (a 1) 382 (upd g7 k (f2 k))) := by rw [hw16]; exact set_eq k9
        have kp20 := keeps_set kq2 hw16 (by first | exact rfl | decide | omega | (dsimp only; omega))
        refine x_iinc C (v := (nI (k + 1))) (lv' := [(2, .int (nI (k + 1))), (0, .ref (a 2)), (1, .ref (a 1))]) dX12_copies_15 2 rfl (nI_add k 1) (by decide) rfl rfl ?_
        refine x_goto C (tgt := 2) dX12_copies_18 (by decide) ?_
        refine x_lv (lv1 := [(0, .ref (a 2)), (1, .ref (a 1)), (2, .int (nI (k + 1)))]) [1, 2, 0] rfl ?_
        exact ih2 (k + 1) w15 hW17 (by omega) (by omega) k18 ⟨_, pf14, k19, cpy_st hz10⟩ kp20
  refine x_lv (lv1 := [(0, .ref (a 2)), (1, .ref (a 1)), (2, .int 0)]) [1, 2, 0] rfl ?_
  exact loop2 _ 0 ws hW0 (Nat.lt_succ_self _) (by omega) k1 ⟨_, pf6, k4, fun j hj => absurd hj (by omega)⟩ kp0
theorem dX12_howMany_0 : decode cX12_howMany 0 = .ok (.iconst 0, 1) := by decide +kernel
theorem dX12_howMany_1 : decode cX12_howMany 1 = .ok (.istore_n 2, 1) := by decide +kernel
theorem dX12_howMany_2 : decode cX12_howMany 2 = .ok (.iconst 0, 1) := by decide +kernel
theorem dX12_howMany_3 : decode cX12_howMany 3 = .ok (.istore_n 3, 1) := by decide +kernel
theorem dX12_howMany_4 : decode cX12_howMany 4 = .ok (.iload_n 3, 1) := by decide +kernel
theorem dX12_howMany_5 : decode cX12_howMany 5 = .ok (.aload_n 0, 1) := by decide +kernel
theorem dX12_howMany_6 : decode cX12_howMany 6 = .ok (.getfield 7, 3) := by decide +kernel
theorem dX12_howMany_9 : decode cX12_howMany 9 = .ok (.sipush 381, 3) := by decide +kernel
theorem dX12_howMany_12 : decode cX12_howMany 12 = .ok (.iaload, 1) := by decide +kernel
theorem dX12_howMany_13 : decode cX12_howMany 13 = .ok (.if_icmp .ge 31, 3) := by decide +kernel
theorem dX12_howMany_16 : decode cX12_howMany 16 = .ok (.iload_n 2, 1) := by decide +kernel
theorem dX12_howMany_17 : decode cX12_howMany 17 = .ok (.aload_n 0, 1) := by decide +kernel
theorem dX12_howMany_18 : decode cX12_howMany 18 = .ok (.getfield 7, 3) := by decide +kernel
theorem dX12_howMany_21 : decode cX12_howMany 21 = .ok (.sipush 240, 3) := by decide +kernel
theorem dX12_howMany_24 : decode cX12_howMany 24 = .ok (.iload_n 3, 1) := by decide +kernel
theorem dX12_howMany_25 : decode cX12_howMany 25 = .ok (.iadd, 1) := by decide +kernel
theorem dX12_howMany_26 : decode cX12_howMany 26 = .ok (.iaload, 1) := by decide +kernel
theorem dX12_howMany_27 : decode cX12_howMany 27 = .ok (.iload_n 1, 1) := by decide +kernel
theorem dX12_howMany_28 : decode cX12_howMany 28 = .ok (.if_icmp .ne 7, 3) := by decide +kernel
theorem dX12_howMany_31 : decode cX12_howMany 31 = .ok (.iconst 1, 1) := by decide +kernel
theorem dX12_howMany_32 : decode cX12_howMany 32 = .ok (.goto 4, 3) := by decide +kernel
theorem dX12_howMany_35 : decode cX12_howMany 35 = .ok (.iconst 0, 1) := by decide +kernel
theorem dX12_howMany_36 : decode cX12_howMany 36 = .ok (.iadd, 1) := by decide +kernel
theorem dX12_howMany_37 : decode cX12_howMany 37 = .ok (.istore_n 2, 1) := by decide +kernel
theorem dX12_howMany_38 : decode cX12_howMany 38 = .ok (.iinc 3 1, 3) := by decide +kernel
theorem dX12_howMany_41 : decode cX12_howMany 41 = .ok (.goto (-37), 3) := by decide +kernel
theorem dX12_howMany_44 : decode cX12_howMany 44 = .ok (.iload_n 2, 1) := by decide +kernel
theorem dX12_howMany_45 : decode cX12_howMany 45 = .ok (.ireturn, 1) := by decide +kernel
set_option maxRecDepth 20000 in
set_option maxHeartbeats 4000000 in
theorem m_howMany (E : xE) (l : Launch) (a : Nat → Nat) (cd : Cd) (hG : Good cd) (kf : Int32) (jn js jq : Lb) (ws : va_W) (hW : WX (okM E a cd kf jn js jq) ws) (p0 : Int32) : xI E l yX12_howMany cX12_howMany 4 (some .int) 0 [.ref (a 0), .int p0] ws (fun r w => w = ws) := by
  refine xI_start (lv := [(0, .ref (a 0)), (1, .int p0)]) RX12 (by decide) rfl (Nat.le_of_ble_eq_true rfl) rfl (fun p e s m below meth c A C hr hlk => ?_)
  refine x_iconst C (v := 0) dX12_howMany_0 (by decide) rfl ?_
  refine x_istore_n C (lv' := [(2, .int 0), (0, .ref (a 0)), (1, .int p0)]) dX12_howMany_1 rfl (by decide) rfl rfl ?_
  refine x_iconst C (v := 0) dX12_howMany_2 (by decide) rfl ?_
  refine x_istore_n C (lv' := [(3, .int 0), (2, .int 0), (0, .ref (a 0)), (1, .int p0)]) dX12_howMany_3 rfl (by decide) rfl rfl ?_
  have loop4 : ∀ (fu4 : Nat) (z4_2 : Int32) (i : Nat), True → 48 - i < fu4 → i ≤ 48 → X E p l e (xRm 0 0 0) s m ([.ref (a 0), .int p0] : List Value).toArray below meth c A 4 0 0 (MQ below (va_Qi (fun r w => w = ws) (xB E A) A) ([.ref (a 0), .int p0] : List Value).toArray s 0 0 A) ws 4 [(0, .ref (a 0)), (1, .int p0), (2, .int z4_2), (3, .int (nI i))] [] := by
    intro fu4
    induction fu4 with
    | zero => intro z4_2 i _ q; omega
    | succ fu4 ih4 =>
      intro z4_2 i _ me4 iv4_0
      refine x_iload_n C dX12_howMany_4 rfl 3 rfl rfl ?_
      refine x_aload_n C dX12_howMany_5 rfl 0 rfl rfl ?_
      obtain ⟨_, k1, n2, n4, n6, v8, v9, v10, n11, n13, n15, n17, v19, v20, v21, v22, n23, n25, bn3, bn5, bn7, bn12, bn14, bn16, bn18, bn24, bn26, rfl⟩ := hW 0 _ rfl
      refine x_get C (ci := 11) (k := 0) 0 k1 rfl in_X12 (by decide) w_1118 rfl dX12_howMany_6 rfl ?_
      refine x_sipush C (v := 381) dX12_howMany_9 (by decide) rfl ?_
      obtain ⟨_, k27, f28, pf29, rfl⟩ := hW 1 _ rfl
      obtain ⟨n30, hn31, en32⟩ := NB_many pf29
      refine x_ialk C (v := nI n30) 381 (by decide) (by decide) (by decide) 1 k27 en32 dX12_howMany_12 rfl ?_
      refine x_icmp_ge C (tgt := 44) dX12_howMany_13 (by decide) rfl (fun c33 => ?_) (fun c33 => ?_)
      · skip
        have nf34 := nI_le' (a := n30) (b := i) c33 (by omega) (by omega)
        refine x_iload_n C dX12_howMany_44 rfl 2 rfl rfl ?_
        exact x_zret C hr hlk rfl dX12_howMany_45 rfl
      · skip
        have nf35 := nI_nle' (a := n30) (b := i) c33 (by omega) (by omega)
        refine x_iload_n C dX12_howMany_16 rfl 2 rfl rfl ?_
        refine x_aload_n C dX12_howMany_17 rfl 0 rfl rfl ?_
        refine x_get C (ci := 11) (k := 0) 0 k1 rfl in_X12 (by decide) w_1118 rfl dX12_howMany_18 rfl ?_
        refine x_sipush C (v := 240) dX12_howMany_21 (by decide) rfl ?_
        refine x_iload_n C dX12_howMany_24 rfl 3 rfl rfl ?_
        refine x_iadd C (v := (nI (240 + i))) dX12_howMany_25 (nI_add 240 i) rfl ?_
        refine x_iald C (v := (f28 (nI (240 + i)).toNatClampNeg)) 1 k27 (vp_in_nI (by omega) (by decide)) rfl dX12_howMany_26 rfl ?_
        refine x_any (fun v36 => ?_)
        refine x_iload_n C dX12_howMany_27 rfl 1 rfl rfl ?_
        refine x_icmp_ne C (tgt := 35) dX12_howMany_28 (by decide) rfl (fun c37 => ?_) (fun c37 => ?_)
        · skip
          refine x_iconst C (v := 0) dX12_howMany_35 (by decide) rfl ?_
          refine x_iadd C (v := (z4_2 + (0 : Int32))) dX12_howMany_36 rfl rfl ?_
          refine x_any (fun v38 => ?_)
          refine x_istore_n C (lv' := [(2, .int v38), (0, .ref (a 0)), (1, .int p0), (3, .int (nI i))]) dX12_howMany_37 rfl (by decide) rfl rfl ?_
          refine x_iinc C (v := (nI (i + 1))) (lv' := [(3, .int (nI (i + 1))), (2, .int v38), (0, .ref (a 0)), (1, .int p0)]) dX12_howMany_38 3 rfl (nI_add i 1) (by decide) rfl rfl ?_
          refine x_goto C (tgt := 4) dX12_howMany_41 (by decide) ?_
          refine x_lv (lv1 := [(0, .ref (a 0)), (1, .int p0), (2, .int v38), (3, .int (nI (i + 1)))]) [2, 3, 1, 0] rfl ?_
          exact ih4 v38 (i + 1) trivial (by omega) (by omega)
        · skip
          refine x_iconst C (v := 1) dX12_howMany_31 (by decide) rfl ?_
          refine x_goto C (tgt := 36) dX12_howMany_32 (by decide) ?_
          refine x_iadd C (v := (z4_2 + (1 : Int32))) dX12_howMany_36 rfl rfl ?_
          refine x_any (fun v39 => ?_)
          refine x_istore_n C (lv' := [(2, .int v39), (0, .ref (a 0)), (1, .int p0), (3, .int (nI i))]) dX12_howMany_37 rfl (by decide) rfl rfl ?_
          refine x_iinc C (v := (nI (i + 1))) (lv' := [(3, .int (nI (i + 1))), (2, .int v39), (0, .ref (a 0)), (1, .int p0)]) dX12_howMany_38 3 rfl (nI_add i 1) (by decide) rfl rfl ?_
          refine x_goto C (tgt := 4) dX12_howMany_41 (by decide) ?_
          refine x_lv (lv1 := [(0, .ref (a 0)), (1, .int p0), (2, .int v39), (3, .int (nI (i + 1)))]) [2, 3, 1, 0] rfl ?_
          exact ih4 v39 (i + 1) trivial (by omega) (by omega)
  refine x_lv (lv1 := [(0, .ref (a 0)), (1, .int p0), (2, .int 0), (3, .int 0)]) [2, 3, 1, 0] rfl ?_
  exact loop4 _ (0 : Int32) 0 trivial (Nat.lt_succ_self _) (by omega)
theorem dX12_eggsOf_0 : decode cX12_eggsOf 0 = .ok (.iconst 0, 1) := by decide +kernel
theorem dX12_eggsOf_1 : decode cX12_eggsOf 1 = .ok (.istore_n 3, 1) := by decide +kernel
theorem dX12_eggsOf_2 : decode cX12_eggsOf 2 = .ok (.iconst 0, 1) := by decide +kernel
theorem dX12_eggsOf_3 : decode cX12_eggsOf 3 = .ok (.istore 4, 2) := by decide +kernel
theorem dX12_eggsOf_5 : decode cX12_eggsOf 5 = .ok (.iload 4, 2) := by decide +kernel
theorem dX12_eggsOf_7 : decode cX12_eggsOf 7 = .ok (.aload_n 0, 1) := by decide +kernel
theorem dX12_eggsOf_8 : decode cX12_eggsOf 8 = .ok (.getfield 7, 3) := by decide +kernel
theorem dX12_eggsOf_11 : decode cX12_eggsOf 11 = .ok (.sipush 381, 3) := by decide +kernel
theorem dX12_eggsOf_14 : decode cX12_eggsOf 14 = .ok (.iaload, 1) := by decide +kernel
theorem dX12_eggsOf_15 : decode cX12_eggsOf 15 = .ok (.if_icmp .ge 53, 3) := by decide +kernel
theorem dX12_eggsOf_18 : decode cX12_eggsOf 18 = .ok (.aload_n 0, 1) := by decide +kernel
theorem dX12_eggsOf_19 : decode cX12_eggsOf 19 = .ok (.iload 4, 2) := by decide +kernel
theorem dX12_eggsOf_21 : decode cX12_eggsOf 21 = .ok (.invokevirtual 268, 3) := by decide +kernel
theorem dX12_eggsOf_24 : decode cX12_eggsOf 24 = .ok (.ifCond .eq 38, 3) := by decide +kernel
theorem dX12_eggsOf_27 : decode cX12_eggsOf 27 = .ok (.aload_n 0, 1) := by decide +kernel
theorem dX12_eggsOf_28 : decode cX12_eggsOf 28 = .ok (.getfield 7, 3) := by decide +kernel
theorem dX12_eggsOf_31 : decode cX12_eggsOf 31 = .ok (.sipush 144, 3) := by decide +kernel
theorem dX12_eggsOf_34 : decode cX12_eggsOf 34 = .ok (.iload 4, 2) := by decide +kernel
theorem dX12_eggsOf_36 : decode cX12_eggsOf 36 = .ok (.iadd, 1) := by decide +kernel
theorem dX12_eggsOf_37 : decode cX12_eggsOf 37 = .ok (.iaload, 1) := by decide +kernel
theorem dX12_eggsOf_38 : decode cX12_eggsOf 38 = .ok (.iload_n 1, 1) := by decide +kernel
theorem dX12_eggsOf_39 : decode cX12_eggsOf 39 = .ok (.if_icmp .ne 23, 3) := by decide +kernel
theorem dX12_eggsOf_42 : decode cX12_eggsOf 42 = .ok (.iload_n 3, 1) := by decide +kernel
theorem dX12_eggsOf_43 : decode cX12_eggsOf 43 = .ok (.iload_n 2, 1) := by decide +kernel
theorem dX12_eggsOf_44 : decode cX12_eggsOf 44 = .ok (.ifCond .eq 15, 3) := by decide +kernel
theorem dX12_eggsOf_47 : decode cX12_eggsOf 47 = .ok (.aload_n 0, 1) := by decide +kernel
theorem dX12_eggsOf_48 : decode cX12_eggsOf 48 = .ok (.getfield 7, 3) := by decide +kernel
theorem dX12_eggsOf_51 : decode cX12_eggsOf 51 = .ok (.iconst 0, 1) := by decide +kernel
theorem dX12_eggsOf_52 : decode cX12_eggsOf 52 = .ok (.iload 4, 2) := by decide +kernel
theorem dX12_eggsOf_54 : decode cX12_eggsOf 54 = .ok (.iadd, 1) := by decide +kernel
theorem dX12_eggsOf_55 : decode cX12_eggsOf 55 = .ok (.iaload, 1) := by decide +kernel
theorem dX12_eggsOf_56 : decode cX12_eggsOf 56 = .ok (.goto 4, 3) := by decide +kernel
theorem dX12_eggsOf_59 : decode cX12_eggsOf 59 = .ok (.iconst 1, 1) := by decide +kernel
theorem dX12_eggsOf_60 : decode cX12_eggsOf 60 = .ok (.iadd, 1) := by decide +kernel
theorem dX12_eggsOf_61 : decode cX12_eggsOf 61 = .ok (.istore_n 3, 1) := by decide +kernel
theorem dX12_eggsOf_62 : decode cX12_eggsOf 62 = .ok (.iinc 4 1, 3) := by decide +kernel
theorem dX12_eggsOf_65 : decode cX12_eggsOf 65 = .ok (.goto (-60), 3) := by decide +kernel
theorem dX12_eggsOf_68 : decode cX12_eggsOf 68 = .ok (.iload_n 3, 1) := by decide +kernel
theorem dX12_eggsOf_69 : decode cX12_eggsOf 69 = .ok (.ireturn, 1) := by decide +kernel
set_option maxRecDepth 20000 in
set_option maxHeartbeats 4000000 in
theorem m_eggsOf (E : xE) (l : Launch) (a : Nat → Nat) (cd : Cd) (hG : Good cd) (kf : Int32) (jn js jq : Lb) (ws : va_W) (hW : WX (okM E a cd kf jn js jq) ws) (p0 : Int32) (p1 : Int32) : xI E l yX12_eggsOf cX12_eggsOf 5 (some .int) 2 [.ref (a 0), .int p0, .int p1] ws (fun r w => w = ws) := by
  refine xI_start (lv := [(0, .ref (a 0)), (1, .int p0), (2, .int p1)]) RX12 (by decide) rfl (Nat.le_of_ble_eq_true rfl) rfl (fun p e s m below meth c A C hr hlk => ?_)
  refine x_iconst C (v := 0) dX12_eggsOf_0 (by decide) rfl ?_
  refine x_istore_n C (lv' := [(3, .int 0), (0, .ref (a 0)), (1, .int p0), (2, .int p1)]) dX12_eggsOf_1 rfl (by decide) rfl rfl ?_
  refine x_iconst C (v := 0) dX12_eggsOf_2 (by decide) rfl ?_
  refine x_istore C (lv' := [(4, .int 0), (3, .int 0), (0, .ref (a 0)), (1, .int p0), (2, .int p1)]) dX12_eggsOf_3 (by decide) rfl rfl ?_
  have loop5 : ∀ (fu5 : Nat) (z5_3 : Int32) (i : Nat), True → 48 - i < fu5 → i ≤ 48 → X E p l e (xRm 2 0 0) s m ([.ref (a 0), .int p0, .int p1] : List Value).toArray below meth c A 5 0 0 (MQ below (va_Qi (fun r w => w = ws) (xB E A) A) ([.ref (a 0), .int p0, .int p1] : List Value).toArray s 0 0 A) ws 5 [(0, .ref (a 0)), (1, .int p0), (2, .int p1), (3, .int z5_3), (4, .int (nI i))] [] := by
    intro fu5
    induction fu5 with
    | zero => intro z5_3 i _ q; omega
    | succ fu5 ih5 =>
      intro z5_3 i _ me5 iv5_0
      refine x_iload C dX12_eggsOf_5 4 rfl rfl ?_
      refine x_aload_n C dX12_eggsOf_7 rfl 0 rfl rfl ?_
      obtain ⟨_, k1, n2, n4, n6, v8, v9, v10, n11, n13, n15, n17, v19, v20, v21, v22, n23, n25, bn3, bn5, bn7, bn12, bn14, bn16, bn18, bn24, bn26, rfl⟩ := hW 0 _ rfl
      refine x_get C (ci := 11) (k := 0) 0 k1 rfl in_X12 (by decide) w_1118 rfl dX12_eggsOf_8 rfl ?_
      refine x_sipush C (v := 381) dX12_eggsOf_11 (by decide) rfl ?_
      obtain ⟨_, k27, f28, pf29, rfl⟩ := hW 1 _ rfl
      obtain ⟨n30, hn31, en32⟩ := NB_many pf29
      refine x_ialk C (v := nI n30) 381 (by decide) (by decide) (by decide) 1 k27 en32 dX12_eggsOf_14 rfl ?_
      refine x_icmp_ge C (tgt := 68) dX12_eggsOf_15 (by decide) rfl (fun c33 => ?_) (fun c33 => ?_)
      · skip
        have nf34 := nI_le' (a := n30) (b := i) c33 (by omega) (by omega)
        refine x_iload_n C dX12_eggsOf_68 rfl 3 rfl rfl ?_
        exact x_zret C hr hlk rfl dX12_eggsOf_69 rfl
      · skip
        have nf35 := nI_nle' (a := n30) (b := i) c33 (by omega) (by omega)
        refine x_aload_n C dX12_eggsOf_18 rfl 0 rfl rfl ?_
        refine x_iload C dX12_eggsOf_19 4 rfl rfl ?_
        refine x_vi C (As := [.int (nI i)]) (rest := []) (m_isWhole E l a cd hG kf jn js jq ws hW ((nI i))) mf_X12_isWhole w_1435 0 k1 rfl rfl rfl (Nat.le_of_ble_eq_true rfl) ⟨(Nat.le_of_ble_eq_true rfl), (Nat.le_of_ble_eq_true rfl)⟩ ⟨(Nat.le_of_ble_eq_true rfl), (Nat.le_of_ble_eq_true rfl)⟩ dX12_eggsOf_21 rfl (fun r37 w38 h36 => ?_)
        obtain ⟨hW39, zb40, x41⟩ := h36
        refine x_ws hW39 ?_
        refine x_if_eq C (tgt := 62) dX12_eggsOf_24 (by decide) rfl (fun c42 => ?_) (fun c42 => ?_)
        · skip
          refine x_iinc C (v := (nI (i + 1))) (lv' := [(4, .int (nI (i + 1))), (0, .ref (a 0)), (1, .int p0), (2, .int p1), (3, .int z5_3)]) dX12_eggsOf_62 4 rfl (nI_add i 1) (by decide) rfl rfl ?_
          refine x_goto C (tgt := 5) dX12_eggsOf_65 (by decide) ?_
          refine x_lv (lv1 := [(0, .ref (a 0)), (1, .int p0), (2, .int p1), (3, .int z5_3), (4, .int (nI (i + 1)))]) [1, 2, 3, 4, 0] rfl ?_
          exact ih5 z5_3 (i + 1) trivial (by omega) (by omega)
        · skip
          have wi43 := wth_le (a := 0) (b := 47) (j := i) (x41 c42) (by omega) (by decide) (by decide)
          refine x_aload_n C dX12_eggsOf_27 rfl 0 rfl rfl ?_
          refine x_get C (ci := 11) (k := 0) 0 k1 rfl in_X12 (by decide) w_1118 rfl dX12_eggsOf_28 rfl ?_
          refine x_sipush C (v := 144) dX12_eggsOf_31 (by decide) rfl ?_
          refine x_iload C dX12_eggsOf_34 4 rfl rfl ?_
          refine x_iadd C (v := (nI (144 + i))) dX12_eggsOf_36 (nI_add 144 i) rfl ?_
          obtain ⟨n44, hn45, en46⟩ := NB_own (j := i) pf29 (by omega)
          refine x_ialk C (v := nI n44) (144 + i) (nI_clamp (by omega)) (nI_pos (by omega)) (by omega) 1 k27 en46 dX12_eggsOf_37 rfl ?_
          refine x_iload_n C dX12_eggsOf_38 rfl 1 rfl rfl ?_
          refine x_icmp_ne C (tgt := 62) dX12_eggsOf_39 (by decide) rfl (fun c47 => ?_) (fun c47 => ?_)
          · skip
            refine x_iinc C (v := (nI (i + 1))) (lv' := [(4, .int (nI (i + 1))), (0, .ref (a 0)), (1, .int p0), (2, .int p1), (3, .int z5_3)]) dX12_eggsOf_62 4 rfl (nI_add i 1) (by decide) rfl rfl ?_
            refine x_goto C (tgt := 5) dX12_eggsOf_65 (by decide) ?_
            refine x_lv (lv1 := [(0, .ref (a 0)), (1, .int p0), (2, .int p1), (3, .int z5_3), (4, .int (nI (i + 1)))]) [1, 2, 3, 4, 0] rfl ?_
            exact ih5 z5_3 (i + 1) trivial (by omega) (by omega)
          · skip
            refine x_iload_n C dX12_eggsOf_42 rfl 3 rfl rfl ?_
            refine x_iload_n C dX12_eggsOf_43 rfl 2 rfl rfl ?_
            refine x_if_eq C (tgt := 59) dX12_eggsOf_44 (by decide) rfl (fun c48 => ?_) (fun c48 => ?_)
            · skip
              refine x_iconst C (v := 1) dX12_eggsOf_59 (by decide) rfl ?_
              refine x_iadd C (v := (z5_3 + (1 : Int32))) dX12_eggsOf_60 rfl rfl ?_
              refine x_any (fun v49 => ?_)
              refine x_istore_n C (lv' := [(3, .int v49), (0, .ref (a 0)), (1, .int p0), (2, .int p1), (4, .int (nI i))]) dX12_eggsOf_61 rfl (by decide) rfl rfl ?_
              refine x_iinc C (v := (nI (i + 1))) (lv' := [(4, .int (nI (i + 1))), (3, .int v49), (0, .ref (a 0)), (1, .int p0), (2, .int p1)]) dX12_eggsOf_62 4 rfl (nI_add i 1) (by decide) rfl rfl ?_
              refine x_goto C (tgt := 5) dX12_eggsOf_65 (by decide) ?_
              refine x_lv (lv1 := [(0, .ref (a 0)), (1, .int p0), (2, .int p1), (3, .int v49), (4, .int (nI (i + 1)))]) [2, 3, 4, 1, 0] rfl ?_
              exact ih5 v49 (i + 1) trivial (by omega) (by omega)
            · skip
              refine x_aload_n C dX12_eggsOf_47 rfl 0 rfl rfl ?_
              refine x_get C (ci := 11) (k := 0) 0 k1 rfl in_X12 (by decide) w_1118 rfl dX12_eggsOf_48 rfl ?_
              refine x_iconst C (v := 0) dX12_eggsOf_51 (by decide) rfl ?_
              refine x_iload C dX12_eggsOf_52 4 rfl rfl ?_
              refine x_iadd C (v := (nI (0 + i))) dX12_eggsOf_54 (nI_add 0 i) rfl ?_
              refine x_iald C (v := (f28 (nI (0 + i)).toNatClampNeg)) 1 k27 (vp_in_nI (by omega) (by decide)) rfl dX12_eggsOf_55 rfl ?_
              refine x_any (fun v50 => ?_)
              refine x_goto C (tgt := 60) dX12_eggsOf_56 (by decide) ?_
              refine x_iadd C (v := (z5_3 + v50)) dX12_eggsOf_60 rfl rfl ?_
              refine x_any (fun v51 => ?_)
              refine x_istore_n C (lv' := [(3, .int v51), (0, .ref (a 0)), (1, .int p0), (2, .int p1), (4, .int (nI i))]) dX12_eggsOf_61 rfl (by decide) rfl rfl ?_
              refine x_iinc C (v := (nI (i + 1))) (lv' := [(4, .int (nI (i + 1))), (3, .int v51), (0, .ref (a 0)), (1, .int p0), (2, .int p1)]) dX12_eggsOf_62 4 rfl (nI_add i 1) (by decide) rfl rfl ?_
              refine x_goto C (tgt := 5) dX12_eggsOf_65 (by decide) ?_
              refine x_lv (lv1 := [(0, .ref (a 0)), (1, .int p0), (2, .int p1), (3, .int v51), (4, .int (nI (i + 1)))]) [2, 3, 4, 1, 0] rfl ?_
              exact ih5 v51 (i + 1) trivial (by omega) (by omega)
  refine x_lv (lv1 := [(0, .ref (a 0)), (1, .int p0), (2, .int p1), (3, .int 0), (4, .int 0)]) [2, 3, 4, 1, 0] rfl ?_
  exact loop5 _ (0 : Int32) 0 trivial (Nat.lt_succ_self _) (by omega)
theorem dX12_hensOf_0 : decode cX12_hensOf 0 = .ok (.iconst 0, 1) := by decide +kernel
theorem dX12_hensOf_1 : decode cX12_hensOf 1 = .ok (.istore_n 2, 1) := by decide +kernel
theorem dX12_hensOf_2 : decode cX12_hensOf 2 = .ok (.iconst 0, 1) := by decide +kernel
theorem dX12_hensOf_3 : decode cX12_hensOf 3 = .ok (.istore_n 3, 1) := by decide +kernel
theorem dX12_hensOf_4 : decode cX12_hensOf 4 = .ok (.iload_n 3, 1) := by decide +kernel
theorem dX12_hensOf_5 : decode cX12_hensOf 5 = .ok (.bipush 8, 2) := by decide +kernel
theorem dX12_hensOf_7 : decode cX12_hensOf 7 = .ok (.if_icmp .ge 39, 3) := by decide +kernel
theorem dX12_hensOf_10 : decode cX12_hensOf 10 = .ok (.iload_n 2, 1) := by decide +kernel
theorem dX12_hensOf_11 : decode cX12_hensOf 11 = .ok (.aload_n 0, 1) := by decide +kernel
theorem dX12_hensOf_12 : decode cX12_hensOf 12 = .ok (.iload_n 3, 1) := by decide +kernel
theorem dX12_hensOf_13 : decode cX12_hensOf 13 = .ok (.invokevirtual 116, 3) := by decide +kernel
theorem dX12_hensOf_16 : decode cX12_hensOf 16 = .ok (.ifCond .eq 21, 3) := by decide +kernel
theorem dX12_hensOf_19 : decode cX12_hensOf 19 = .ok (.aload_n 0, 1) := by decide +kernel
theorem dX12_hensOf_20 : decode cX12_hensOf 20 = .ok (.getfield 7, 3) := by decide +kernel
theorem dX12_hensOf_23 : decode cX12_hensOf 23 = .ok (.sipush 329, 3) := by decide +kernel
theorem dX12_hensOf_26 : decode cX12_hensOf 26 = .ok (.iload_n 3, 1) := by decide +kernel
theorem dX12_hensOf_27 : decode cX12_hensOf 27 = .ok (.iadd, 1) := by decide +kernel
theorem dX12_hensOf_28 : decode cX12_hensOf 28 = .ok (.iaload, 1) := by decide +kernel
theorem dX12_hensOf_29 : decode cX12_hensOf 29 = .ok (.iload_n 1, 1) := by decide +kernel
theorem dX12_hensOf_30 : decode cX12_hensOf 30 = .ok (.if_icmp .ne 7, 3) := by decide +kernel
theorem dX12_hensOf_33 : decode cX12_hensOf 33 = .ok (.iconst 1, 1) := by decide +kernel
theorem dX12_hensOf_34 : decode cX12_hensOf 34 = .ok (.goto 4, 3) := by decide +kernel
theorem dX12_hensOf_37 : decode cX12_hensOf 37 = .ok (.iconst 0, 1) := by decide +kernel
theorem dX12_hensOf_38 : decode cX12_hensOf 38 = .ok (.iadd, 1) := by decide +kernel
theorem dX12_hensOf_39 : decode cX12_hensOf 39 = .ok (.istore_n 2, 1) := by decide +kernel
theorem dX12_hensOf_40 : decode cX12_hensOf 40 = .ok (.iinc 3 1, 3) := by decide +kernel
theorem dX12_hensOf_43 : decode cX12_hensOf 43 = .ok (.goto (-39), 3) := by decide +kernel
theorem dX12_hensOf_46 : decode cX12_hensOf 46 = .ok (.iload_n 2, 1) := by decide +kernel
theorem dX12_hensOf_47 : decode cX12_hensOf 47 = .ok (.ireturn, 1) := by decide +kernel
set_option maxRecDepth 20000 in
set_option maxHeartbeats 4000000 in
theorem m_hensOf (E : xE) (l : Launch) (a : Nat → Nat) (cd : Cd) (hG : Good cd) (kf : Int32) (jn js jq : Lb) (ws : va_W) (hW : WX (okM E a cd kf jn js jq) ws) (p0 : Int32) : xI E l yX12_hensOf cX12_hensOf 4 (some .int) 2 [.ref (a 0), .int p0] ws (fun r w => w = ws) := by
  refine xI_start (lv := [(0, .ref (a 0)), (1, .int p0)]) RX12 (by decide) rfl (Nat.le_of_ble_eq_true rfl) rfl (fun p e s m below meth c A C hr hlk => ?_)
  refine x_iconst C (v := 0) dX12_hensOf_0 (by decide) rfl ?_
  refine x_istore_n C (lv' := [(2, .int 0), (0, .ref (a 0)), (1, .int p0)]) dX12_hensOf_1 rfl (by decide) rfl rfl ?_
  refine x_iconst C (v := 0) dX12_hensOf_2 (by decide) rfl ?_
  refine x_istore_n C (lv' := [(3, .int 0), (2, .int 0), (0, .ref (a 0)), (1, .int p0)]) dX12_hensOf_3 rfl (by decide) rfl rfl ?_
  have loop4 : ∀ (fu4 : Nat) (z4_2 : Int32) (i : Nat), True → 8 - i < fu4 → i ≤ 8 → X E p l e (xRm 2 0 0) s m ([.ref (a 0), .int p0] : List Value).toArray below meth c A 4 0 0 (MQ below (va_Qi (fun r w => w = ws) (xB E A) A) ([.ref (a 0), .int p0] : List Value).toArray s 0 0 A) ws 4 [(0, .ref (a 0)), (1, .int p0), (2, .int z4_2), (3, .int (nI i))] [] := by
    intro fu4
    induction fu4 with
    | zero => intro z4_2 i _ q; omega
    | succ fu4 ih4 =>
      intro z4_2 i _ me4 iv4_0
      refine x_iload_n C dX12_hensOf_4 rfl 3 rfl rfl ?_
      refine x_bipush C (v := 8) dX12_hensOf_5 (by decide) rfl ?_
      refine x_icmp_ge C (tgt := 46) dX12_hensOf_7 (by decide) rfl (fun c1 => ?_) (fun c1 => ?_)
      · skip
        have nf2 := nI_le' (a := 8) (b := i) c1 (by omega) (by omega)
        refine x_iload_n C dX12_hensOf_46 rfl 2 rfl rfl ?_
        exact x_zret C hr hlk rfl dX12_hensOf_47 rfl
      · skip
        have nf3 := nI_nle' (a := 8) (b := i) c1 (by omega) (by omega)
        refine x_iload_n C dX12_hensOf_10 rfl 2 rfl rfl ?_
        refine x_aload_n C dX12_hensOf_11 rfl 0 rfl rfl ?_
        refine x_iload_n C dX12_hensOf_12 rfl 3 rfl rfl ?_
        obtain ⟨_, k4, n5, n7, n9, v11, v12, v13, n14, n16, n18, n20, v22, v23, v24, v25, n26, n28, bn6, bn8, bn10, bn15, bn17, bn19, bn21, bn27, bn29, rfl⟩ := hW 0 _ rfl
        refine x_vi C (As := [.int (nI i)]) (rest := [.int z4_2]) (m_isHen E l a cd hG kf jn js jq ws hW ((nI i))) mf_X12_isHen w_1285 0 k4 rfl rfl rfl (Nat.le_of_ble_eq_true rfl) ⟨(Nat.le_of_ble_eq_true rfl), (Nat.le_of_ble_eq_true rfl)⟩ ⟨(Nat.le_of_ble_eq_true rfl), (Nat.le_of_ble_eq_true rfl)⟩ dX12_hensOf_13 rfl (fun r31 w32 h30 => ?_)
        obtain ⟨hW33, zb34, x35⟩ := h30
        refine x_ws hW33 ?_
        refine x_if_eq C (tgt := 37) dX12_hensOf_16 (by decide) rfl (fun c36 => ?_) (fun c36 => ?_)
        · skip
          refine x_iconst C (v := 0) dX12_hensOf_37 (by decide) rfl ?_
          refine x_iadd C (v := (z4_2 + (0 : Int32))) dX12_hensOf_38 rfl rfl ?_
          refine x_any (fun v37 => ?_)
          refine x_istore_n C (lv' := [(2, .int v37), (0, .ref (a 0)), (1, .int p0), (3, .int (nI i))]) dX12_hensOf_39 rfl (by decide) rfl rfl ?_
          refine x_iinc C (v := (nI (i + 1))) (lv' := [(3, .int (nI (i + 1))), (2, .int v37), (0, .ref (a 0)), (1, .int p0)]) dX12_hensOf_40 3 rfl (nI_add i 1) (by decide) rfl rfl ?_
          refine x_goto C (tgt := 4) dX12_hensOf_43 (by decide) ?_
          refine x_lv (lv1 := [(0, .ref (a 0)), (1, .int p0), (2, .int v37), (3, .int (nI (i + 1)))]) [2, 3, 1, 0] rfl ?_
          exact ih4 v37 (i + 1) trivial (by omega) (by omega)
        · skip
          have wi38 := wth_le (a := 0) (b := 7) (j := i) (x35 c36) (by omega) (by decide) (by decide)
          refine x_aload_n C dX12_hensOf_19 rfl 0 rfl rfl ?_
          refine x_get C (ci := 11) (k := 0) 0 k4 rfl in_X12 (by decide) w_1118 rfl dX12_hensOf_20 rfl ?_
          refine x_sipush C (v := 329) dX12_hensOf_23 (by decide) rfl ?_
          refine x_iload_n C dX12_hensOf_26 rfl 3 rfl rfl ?_
          refine x_iadd C (v := (nI (329 + i))) dX12_hensOf_27 (nI_add 329 i) rfl ?_
          obtain ⟨_, k39, f40, pf41, rfl⟩ := hW 1 _ rfl
          obtain ⟨n42, hn43, en44⟩ := NB_kp (j := i) pf41 (by omega)
          refine x_ialk C (v := nI n42) (329 + i) (nI_clamp (by omega)) (nI_pos (by omega)) (by omega) 1 k39 en44 dX12_hensOf_28 rfl ?_
          refine x_iload_n C dX12_hensOf_29 rfl 1 rfl rfl ?_
          refine x_icmp_ne C (tgt := 37) dX12_hensOf_30 (by decide) rfl (fun c45 => ?_) (fun c45 => ?_)
          · skip
            refine x_iconst C (v := 0) dX12_hensOf_37 (by decide) rfl ?_
            refine x_iadd C (v := (z4_2 + (0 : Int32))) dX12_hensOf_38 rfl rfl ?_
            refine x_any (fun v46 => ?_)
            refine x_istore_n C (lv' := [(2, .int v46), (0, .ref (a 0)), (1, .int p0), (3, .int (nI i))]) dX12_hensOf_39 rfl (by decide) rfl rfl ?_
            refine x_iinc C (v := (nI (i + 1))) (lv' := [(3, .int (nI (i + 1))), (2, .int v46), (0, .ref (a 0)), (1, .int p0)]) dX12_hensOf_40 3 rfl (nI_add i 1) (by decide) rfl rfl ?_
            refine x_goto C (tgt := 4) dX12_hensOf_43 (by decide) ?_
            refine x_lv (lv1 := [(0, .ref (a 0)), (1, .int p0), (2, .int v46), (3, .int (nI (i + 1)))]) [2, 3, 1, 0] rfl ?_
            exact ih4 v46 (i + 1) trivial (by omega) (by omega)
          · skip
            refine x_iconst C (v := 1) dX12_hensOf_33 (by decide) rfl ?_
            refine x_goto C (tgt := 38) dX12_hensOf_34 (by decide) ?_
            refine x_iadd C (v := (z4_2 + (1 : Int32))) dX12_hensOf_38 rfl rfl ?_
            refine x_any (fun v47 => ?_)
            refine x_istore_n C (lv' := [(2, .int v47), (0, .ref (a 0)), (1, .int p0), (3, .int (nI i))]) dX12_hensOf_39 rfl (by decide) rfl rfl ?_
            refine x_iinc C (v := (nI (i + 1))) (lv' := [(3, .int (nI (i + 1))), (2, .int v47), (0, .ref (a 0)), (1, .int p0)]) dX12_hensOf_40 3 rfl (nI_add i 1) (by decide) rfl rfl ?_
            refine x_goto C (tgt := 4) dX12_hensOf_43 (by decide) ?_
            refine x_lv (lv1 := [(0, .ref (a 0)), (1, .int p0), (2, .int v47), (3, .int (nI (i + 1)))]) [2, 3, 1, 0] rfl ?_
            exact ih4 v47 (i + 1) trivial (by omega) (by omega)
  refine x_lv (lv1 := [(0, .ref (a 0)), (1, .int p0), (2, .int 0), (3, .int 0)]) [2, 3, 1, 0] rfl ?_
  exact loop4 _ (0 : Int32) 0 trivial (Nat.lt_succ_self _) (by omega)
theorem dX12_personIs_0 : decode cX12_personIs 0 = .ok (.aload_n 0, 1) := by decide +kernel
theorem dX12_personIs_1 : decode cX12_personIs 1 = .ok (.iload_n 1, 1) := by decide +kernel
theorem dX12_personIs_2 : decode cX12_personIs 2 = .ok (.invokevirtual 113, 3) := by decide +kernel
theorem dX12_personIs_5 : decode cX12_personIs 5 = .ok (.ifCond .ne 5, 3) := by decide +kernel
theorem dX12_personIs_8 : decode cX12_personIs 8 = .ok (.iconst (-1), 1) := by decide +kernel
theorem dX12_personIs_9 : decode cX12_personIs 9 = .ok (.ireturn, 1) := by decide +kernel
theorem dX12_personIs_10 : decode cX12_personIs 10 = .ok (.iload_n 2, 1) := by decide +kernel
theorem dX12_personIs_11 : decode cX12_personIs 11 = .ok (.tableswitch 105 0 6 #[41, 52, 63, 74, 85, 92, 99], 41) := by decide +kernel
theorem dX12_personIs_52 : decode cX12_personIs 52 = .ok (.aload_n 0, 1) := by decide +kernel
theorem dX12_personIs_53 : decode cX12_personIs 53 = .ok (.getfield 7, 3) := by decide +kernel
theorem dX12_personIs_56 : decode cX12_personIs 56 = .ok (.sipush 288, 3) := by decide +kernel
theorem dX12_personIs_59 : decode cX12_personIs 59 = .ok (.iload_n 1, 1) := by decide +kernel
theorem dX12_personIs_60 : decode cX12_personIs 60 = .ok (.iadd, 1) := by decide +kernel
theorem dX12_personIs_61 : decode cX12_personIs 61 = .ok (.iaload, 1) := by decide +kernel
theorem dX12_personIs_62 : decode cX12_personIs 62 = .ok (.ireturn, 1) := by decide +kernel
theorem dX12_personIs_63 : decode cX12_personIs 63 = .ok (.aload_n 0, 1) := by decide +kernel
theorem dX12_personIs_64 : decode cX12_personIs 64 = .ok (.getfield 7, 3) := by decide +kernel
theorem dX12_personIs_67 : decode cX12_personIs 67 = .ok (.sipush 296, 3) := by decide +kernel
theorem dX12_personIs_70 : decode cX12_personIs 70 = .ok (.iload_n 1, 1) := by decide +kernel
theorem dX12_personIs_71 : decode cX12_personIs 71 = .ok (.iadd, 1) := by decide +kernel
theorem dX12_personIs_72 : decode cX12_personIs 72 = .ok (.iaload, 1) := by decide +kernel
theorem dX12_personIs_73 : decode cX12_personIs 73 = .ok (.ireturn, 1) := by decide +kernel
theorem dX12_personIs_74 : decode cX12_personIs 74 = .ok (.aload_n 0, 1) := by decide +kernel
theorem dX12_personIs_75 : decode cX12_personIs 75 = .ok (.getfield 7, 3) := by decide +kernel
theorem dX12_personIs_78 : decode cX12_personIs 78 = .ok (.sipush 304, 3) := by decide +kernel
theorem dX12_personIs_81 : decode cX12_personIs 81 = .ok (.iload_n 1, 1) := by decide +kernel
theorem dX12_personIs_82 : decode cX12_personIs 82 = .ok (.iadd, 1) := by decide +kernel
theorem dX12_personIs_83 : decode cX12_personIs 83 = .ok (.iaload, 1) := by decide +kernel
theorem dX12_personIs_84 : decode cX12_personIs 84 = .ok (.ireturn, 1) := by decide +kernel
theorem dX12_personIs_85 : decode cX12_personIs 85 = .ok (.aload_n 0, 1) := by decide +kernel
theorem dX12_personIs_86 : decode cX12_personIs 86 = .ok (.getfield 7, 3) := by decide +kernel
theorem dX12_personIs_89 : decode cX12_personIs 89 = .ok (.sipush 312, 3) := by decide +kernel
theorem dX12_personIs_92 : decode cX12_personIs 92 = .ok (.iload_n 1, 1) := by decide +kernel
theorem dX12_personIs_93 : decode cX12_personIs 93 = .ok (.iadd, 1) := by decide +kernel
theorem dX12_personIs_94 : decode cX12_personIs 94 = .ok (.iaload, 1) := by decide +kernel
theorem dX12_personIs_95 : decode cX12_personIs 95 = .ok (.ireturn, 1) := by decide +kernel
theorem dX12_personIs_96 : decode cX12_personIs 96 = .ok (.aload_n 0, 1) := by decide +kernel
theorem dX12_personIs_97 : decode cX12_personIs 97 = .ok (.iload_n 1, 1) := by decide +kernel
theorem dX12_personIs_98 : decode cX12_personIs 98 = .ok (.iconst 0, 1) := by decide +kernel
theorem dX12_personIs_99 : decode cX12_personIs 99 = .ok (.invokevirtual 337, 3) := by decide +kernel
theorem dX12_personIs_102 : decode cX12_personIs 102 = .ok (.ireturn, 1) := by decide +kernel
theorem dX12_personIs_103 : decode cX12_personIs 103 = .ok (.aload_n 0, 1) := by decide +kernel
theorem dX12_personIs_104 : decode cX12_personIs 104 = .ok (.iload_n 1, 1) := by decide +kernel
theorem dX12_personIs_105 : decode cX12_personIs 105 = .ok (.iconst 1, 1) := by decide +kernel
theorem dX12_personIs_106 : decode cX12_personIs 106 = .ok (.invokevirtual 337, 3) := by decide +kernel
theorem dX12_personIs_109 : decode cX12_personIs 109 = .ok (.ireturn, 1) := by decide +kernel
theorem dX12_personIs_110 : decode cX12_personIs 110 = .ok (.aload_n 0, 1) := by decide +kernel
theorem dX12_personIs_111 : decode cX12_personIs 111 = .ok (.iload_n 1, 1) := by decide +kernel
theorem dX12_personIs_112 : decode cX12_personIs 112 = .ok (.invokevirtual 341, 3) := by decide +kernel
theorem dX12_personIs_115 : decode cX12_personIs 115 = .ok (.ireturn, 1) := by decide +kernel
theorem dX12_personIs_116 : decode cX12_personIs 116 = .ok (.iconst (-1), 1) := by decide +kernel
theorem dX12_personIs_117 : decode cX12_personIs 117 = .ok (.ireturn, 1) := by decide +kernel
set_option maxRecDepth 20000 in
set_option maxHeartbeats 4000000 in
theorem m_personIs (E : xE) (l : Launch) (a : Nat → Nat) (cd : Cd) (hG : Good cd) (kf : Int32) (jn js jq : Lb) (ws : va_W) (hW : WX (okM E a cd kf jn js jq) ws) (p0 : Int32) (p1 : Int32) : xI E l yX12_personIs cX12_personIs 3 (some .int) 8 [.ref (a 0), .int p0, .int p1] ws (fun r w => WX (okM E a cd kf jn js jq) w) := by
  refine xI_start (lv := [(0, .ref (a 0)), (1, .int p0), (2, .int p1)]) RX12 (by decide) rfl (Nat.le_of_ble_eq_true rfl) rfl (fun p e s m below meth c A C hr hlk => ?_)
  refine x_aload_n C dX12_personIs_0 rfl 0 rfl rfl ?_
  refine x_iload_n C dX12_personIs_1 rfl 1 rfl rfl ?_
  obtain ⟨_, k1, n2, n4, n6, v8, v9, v10, n11, n13, n15, n17, v19, v20, v21, v22, n23, n25, bn3, bn5, bn7, bn12, bn14, bn16, bn18, bn24, bn26, rfl⟩ := hW 0 _ rfl
  refine x_vi C (As := [.int p0]) (rest := []) (m_isPerson E l a cd hG kf jn js jq ws hW p0) mf_X12_isPerson w_1270 0 k1 rfl rfl rfl (Nat.le_of_ble_eq_true rfl) ⟨(Nat.le_of_ble_eq_true rfl), (Nat.le_of_ble_eq_true rfl)⟩ ⟨(Nat.le_of_ble_eq_true rfl), (Nat.le_of_ble_eq_true rfl)⟩ dX12_personIs_2 rfl (fun r28 w29 h27 => ?_)
  obtain ⟨hW30, zb31, x32⟩ := h27
  refine x_ws hW30 ?_
  refine x_if_ne C (tgt := 10) dX12_personIs_5 (by decide) rfl (fun c33 => ?_) (fun c33 => ?_)
  · skip
    obtain ⟨j34, hl35, hh36, ej37⟩ := w_nat (a := 0) (b := 7) (by decide) (by decide) (x32 c33)
    subst ej37
    refine x_iload_n C dX12_personIs_10 rfl 2 rfl rfl ?_
    by_cases s38 : (p1).toInt < 0
    · refine x_tabOut C (tgt := 116) dX12_personIs_11 (Or.inl s38) (by decide) ?_
      refine x_iconst C (v := (-1)) dX12_personIs_116 (by decide) rfl ?_
      exact x_zret C hr hlk rfl dX12_personIs_117 hW
    by_cases s39 : 6 < (p1).toInt
    · refine x_tabOut C (tgt := 116) dX12_personIs_11 (Or.inr s39) (by decide) ?_
      refine x_iconst C (v := (-1)) dX12_personIs_116 (by decide) rfl ?_
      exact x_zret C hr hlk rfl dX12_personIs_117 hW
    by_cases s40 : p1 = 0
    · refine x_tabIn C (tgt := 52) dX12_personIs_11 (by rw [s40]; decide) (by rw [s40]; decide) (by rw [s40]; rfl) (by decide) ?_
      refine x_aload_n C dX12_personIs_52 rfl 0 rfl rfl ?_
      refine x_get C (ci := 11) (k := 0) 0 k1 rfl in_X12 (by decide) w_1118 rfl dX12_personIs_53 rfl ?_
      refine x_sipush C (v := 288) dX12_personIs_56 (by decide) rfl ?_
      refine x_iload_n C dX12_personIs_59 rfl 1 rfl rfl ?_
      refine x_iadd C (v := (nI (288 + j34))) dX12_personIs_60 (nI_add 288 j34) rfl ?_
      obtain ⟨_, k41, f42, pf43, rfl⟩ := hW 1 _ rfl
      refine x_iald C (v := (f42 (nI (288 + j34)).toNatClampNeg)) 1 k41 (vp_in_nI (by omega) (by decide)) rfl dX12_personIs_61 rfl ?_
      refine x_any (fun v44 => ?_)
      exact x_zret C hr hlk rfl dX12_personIs_62 hW
    have zs40 := sw_ne (by decide : (0 : Int32).toInt = 0) s40
    by_cases s45 : p1 = 1
    · refine x_tabIn C (tgt := 63) dX12_personIs_11 (by rw [s45]; decide) (by rw [s45]; decide) (by rw [s45]; rfl) (by decide) ?_
      refine x_aload_n C dX12_personIs_63 rfl 0 rfl rfl ?_
      refine x_get C (ci := 11) (k := 0) 0 k1 rfl in_X12 (by decide) w_1118 rfl dX12_personIs_64 rfl ?_
      refine x_sipush C (v := 296) dX12_personIs_67 (by decide) rfl ?_
      refine x_iload_n C dX12_personIs_70 rfl 1 rfl rfl ?_
      refine x_iadd C (v := (nI (296 + j34))) dX12_personIs_71 (nI_add 296 j34) rfl ?_
      obtain ⟨_, k46, f47, pf48, rfl⟩ := hW 1 _ rfl
      refine x_iald C (v := (f47 (nI (296 + j34)).toNatClampNeg)) 1 k46 (vp_in_nI (by omega) (by decide)) rfl dX12_personIs_72 rfl ?_
      refine x_any (fun v49 => ?_)
      exact x_zret C hr hlk rfl dX12_personIs_73 hW
    have zs45 := sw_ne (by decide : (1 : Int32).toInt = 1) s45
    by_cases s50 : p1 = 2
    · refine x_tabIn C (tgt := 74) dX12_personIs_11 (by rw [s50]; decide) (by rw [s50]; decide) (by rw [s50]; rfl) (by decide) ?_
      refine x_aload_n C dX12_personIs_74 rfl 0 rfl rfl ?_
      refine x_get C (ci := 11) (k := 0) 0 k1 rfl in_X12 (by decide) w_1118 rfl dX12_personIs_75 rfl ?_
      refine x_sipush C (v := 304) dX12_personIs_78 (by decide) rfl ?_
      refine x_iload_n C dX12_personIs_81 rfl 1 rfl rfl ?_
      refine x_iadd C (v := (nI (304 + j34))) dX12_personIs_82 (nI_add 304 j34) rfl ?_
      obtain ⟨_, k51, f52, pf53, rfl⟩ := hW 1 _ rfl
      refine x_iald C (v := (f52 (nI (304 + j34)).toNatClampNeg)) 1 k51 (vp_in_nI (by omega) (by decide)) rfl dX12_personIs_83 rfl ?_
      refine x_any (fun v54 => ?_)
      exact x_zret C hr hlk rfl dX12_personIs_84 hW
    have zs50 := sw_ne (by decide : (2 : Int32).toInt = 2) s50
    by_cases s55 : p1 = 3
    · refine x_tabIn C (tgt := 85) dX12_personIs_11 (by rw [s55]; decide) (by rw [s55]; decide) (by rw [s55]; rfl) (by decide) ?_
      refine x_aload_n C dX12_personIs_85 rfl 0 rfl rfl ?_
      refine x_get C (ci := 11) (k := 0) 0 k1 rfl in_X12 (by decide) w_1118 rfl dX12_personIs_86 rfl ?_
      refine x_sipush C (v := 312) dX12_personIs_89 (by decide) rfl ?_
      refine x_iload_n C dX12_personIs_92 rfl 1 rfl rfl ?_
      refine x_iadd C (v := (nI (312 + j34))) dX12_personIs_93 (nI_add 312 j34) rfl ?_
      obtain ⟨_, k56, f57, pf58, rfl⟩ := hW 1 _ rfl
      refine x_iald C (v := (f57 (nI (312 + j34)).toNatClampNeg)) 1 k56 (vp_in_nI (by omega) (by decide)) rfl dX12_personIs_94 rfl ?_
      refine x_any (fun v59 => ?_)
      exact x_zret C hr hlk rfl dX12_personIs_95 hW
    have zs55 := sw_ne (by decide : (3 : Int32).toInt = 3) s55
    by_cases s60 : p1 = 4
    · refine x_tabIn C (tgt := 96) dX12_personIs_11 (by rw [s60]; decide) (by rw [s60]; decide) (by rw [s60]; rfl) (by decide) ?_
      refine x_aload_n C dX12_personIs_96 rfl 0 rfl rfl ?_
      refine x_iload_n C dX12_personIs_97 rfl 1 rfl rfl ?_
      refine x_iconst C (v := 0) dX12_personIs_98 (by decide) rfl ?_
      refine x_vi C (As := [.int (nI j34), .int 0]) (rest := []) (m_eggsOf E l a cd hG kf jn js jq ws hW ((nI j34)) (0 : Int32)) mf_X12_eggsOf w_1543 0 k1 rfl rfl rfl (Nat.le_of_ble_eq_true rfl) ⟨(Nat.le_of_ble_eq_true rfl), (Nat.le_of_ble_eq_true rfl)⟩ ⟨(Nat.le_of_ble_eq_true rfl), (Nat.le_of_ble_eq_true rfl)⟩ dX12_personIs_99 rfl (fun r62 w63 h61 => ?_)
      have hW64 := h61
      refine x_ws hW64 ?_
      exact x_zret C hr hlk rfl dX12_personIs_102 hW
    have zs60 := sw_ne (by decide : (4 : Int32).toInt = 4) s60
    by_cases s65 : p1 = 5
    · refine x_tabIn C (tgt := 103) dX12_personIs_11 (by rw [s65]; decide) (by rw [s65]; decide) (by rw [s65]; rfl) (by decide) ?_
      refine x_aload_n C dX12_personIs_103 rfl 0 rfl rfl ?_
      refine x_iload_n C dX12_personIs_104 rfl 1 rfl rfl ?_
      refine x_iconst C (v := 1) dX12_personIs_105 (by decide) rfl ?_
      refine x_vi C (As := [.int (nI j34), .int 1]) (rest := []) (m_eggsOf E l a cd hG kf jn js jq ws hW ((nI j34)) (1 : Int32)) mf_X12_eggsOf w_1543 0 k1 rfl rfl rfl (Nat.le_of_ble_eq_true rfl) ⟨(Nat.le_of_ble_eq_true rfl), (Nat.le_of_ble_eq_true rfl)⟩ ⟨(Nat.le_of_ble_eq_true rfl), (Nat.le_of_ble_eq_true rfl)⟩ dX12_personIs_106 rfl (fun r67 w68 h66 => ?_)
      have hW69 := h66
      refine x_ws hW69 ?_
      exact x_zret C hr hlk rfl dX12_personIs_109 hW
    have zs65 := sw_ne (by decide : (5 : Int32).toInt = 5) s65
    have s70 : p1 = 6 := sw_last (n := 6) (by decide) s38 s39 (by omega)
    refine x_tabIn C (tgt := 110) dX12_personIs_11 (by rw [s70]; decide) (by rw [s70]; decide) (by rw [s70]; rfl) (by decide) ?_
    refine x_aload_n C dX12_personIs_110 rfl 0 rfl rfl ?_
    refine x_iload_n C dX12_personIs_111 rfl 1 rfl rfl ?_
    refine x_vi C (As := [.int (nI j34)]) (rest := []) (m_hensOf E l a cd hG kf jn js jq ws hW ((nI j34))) mf_X12_hensOf w_1547 0 k1 rfl rfl rfl (Nat.le_of_ble_eq_true rfl) ⟨(Nat.le_of_ble_eq_true rfl), (Nat.le_of_ble_eq_true rfl)⟩ ⟨(Nat.le_of_ble_eq_true rfl), (Nat.le_of_ble_eq_true rfl)⟩ dX12_personIs_112 rfl (fun r72 w73 h71 => ?_)
    have hW74 := h71
    refine x_ws hW74 ?_
    exact x_zret C hr hlk rfl dX12_personIs_115 hW
  · skip
    refine x_iconst C (v := (-1)) dX12_personIs_8 (by decide) rfl ?_
    exact x_zret C hr hlk rfl dX12_personIs_9 hW
theorem dX12_workIs_0 : decode cX12_workIs 0 = .ok (.aload_n 0, 1) := by decide +kernel
theorem dX12_workIs_1 : decode cX12_workIs 1 = .ok (.iload_n 1, 1) := by decide +kernel
theorem dX12_workIs_2 : decode cX12_workIs 2 = .ok (.invokevirtual 262, 3) := by decide +kernel
theorem dX12_workIs_5 : decode cX12_workIs 5 = .ok (.ifCond .ne 5, 3) := by decide +kernel
theorem dX12_workIs_8 : decode cX12_workIs 8 = .ok (.iconst (-1), 1) := by decide +kernel
theorem dX12_workIs_9 : decode cX12_workIs 9 = .ok (.ireturn, 1) := by decide +kernel
theorem dX12_workIs_10 : decode cX12_workIs 10 = .ok (.iload_n 2, 1) := by decide +kernel
theorem dX12_workIs_11 : decode cX12_workIs 11 = .ok (.tableswitch 143 0 5 #[37, 48, 59, 70, 81, 95], 37) := by decide +kernel
theorem dX12_workIs_48 : decode cX12_workIs 48 = .ok (.aload_n 0, 1) := by decide +kernel
theorem dX12_workIs_49 : decode cX12_workIs 49 = .ok (.getfield 7, 3) := by decide +kernel
theorem dX12_workIs_52 : decode cX12_workIs 52 = .ok (.sipush 338, 3) := by decide +kernel
theorem dX12_workIs_55 : decode cX12_workIs 55 = .ok (.iload_n 1, 1) := by decide +kernel
theorem dX12_workIs_56 : decode cX12_workIs 56 = .ok (.iadd, 1) := by decide +kernel
theorem dX12_workIs_57 : decode cX12_workIs 57 = .ok (.iaload, 1) := by decide +kernel
theorem dX12_workIs_58 : decode cX12_workIs 58 = .ok (.ireturn, 1) := by decide +kernel
theorem dX12_workIs_59 : decode cX12_workIs 59 = .ok (.aload_n 0, 1) := by decide +kernel
theorem dX12_workIs_60 : decode cX12_workIs 60 = .ok (.getfield 7, 3) := by decide +kernel
theorem dX12_workIs_63 : decode cX12_workIs 63 = .ok (.sipush 346, 3) := by decide +kernel
theorem dX12_workIs_66 : decode cX12_workIs 66 = .ok (.iload_n 1, 1) := by decide +kernel
theorem dX12_workIs_67 : decode cX12_workIs 67 = .ok (.iadd, 1) := by decide +kernel
theorem dX12_workIs_68 : decode cX12_workIs 68 = .ok (.iaload, 1) := by decide +kernel
theorem dX12_workIs_69 : decode cX12_workIs 69 = .ok (.ireturn, 1) := by decide +kernel
theorem dX12_workIs_70 : decode cX12_workIs 70 = .ok (.aload_n 0, 1) := by decide +kernel
theorem dX12_workIs_71 : decode cX12_workIs 71 = .ok (.getfield 7, 3) := by decide +kernel
theorem dX12_workIs_74 : decode cX12_workIs 74 = .ok (.sipush 354, 3) := by decide +kernel
theorem dX12_workIs_77 : decode cX12_workIs 77 = .ok (.iload_n 1, 1) := by decide +kernel
theorem dX12_workIs_78 : decode cX12_workIs 78 = .ok (.iadd, 1) := by decide +kernel
theorem dX12_workIs_79 : decode cX12_workIs 79 = .ok (.iaload, 1) := by decide +kernel
theorem dX12_workIs_80 : decode cX12_workIs 80 = .ok (.ireturn, 1) := by decide +kernel
theorem dX12_workIs_81 : decode cX12_workIs 81 = .ok (.aload_n 0, 1) := by decide +kernel
theorem dX12_workIs_82 : decode cX12_workIs 82 = .ok (.getfield 7, 3) := by decide +kernel
theorem dX12_workIs_85 : decode cX12_workIs 85 = .ok (.sipush 362, 3) := by decide +kernel
theorem dX12_workIs_88 : decode cX12_workIs 88 = .ok (.iload_n 1, 1) := by decide +kernel
theorem dX12_workIs_89 : decode cX12_workIs 89 = .ok (.iadd, 1) := by decide +kernel
theorem dX12_workIs_90 : decode cX12_workIs 90 = .ok (.iaload, 1) := by decide +kernel
theorem dX12_workIs_91 : decode cX12_workIs 91 = .ok (.ireturn, 1) := by decide +kernel
theorem dX12_workIs_92 : decode cX12_workIs 92 = .ok (.aload_n 0, 1) := by decide +kernel
theorem dX12_workIs_93 : decode cX12_workIs 93 = .ok (.iload_n 1, 1) := by decide +kernel
theorem dX12_workIs_94 : decode cX12_workIs 94 = .ok (.invokevirtual 265, 3) := by decide +kernel
theorem dX12_workIs_97 : decode cX12_workIs 97 = .ok (.ifCond .eq 7, 3) := by decide +kernel
theorem dX12_workIs_100 : decode cX12_workIs 100 = .ok (.iconst 1, 1) := by decide +kernel
theorem dX12_workIs_101 : decode cX12_workIs 101 = .ok (.goto 4, 3) := by decide +kernel
theorem dX12_workIs_104 : decode cX12_workIs 104 = .ok (.iconst 0, 1) := by decide +kernel
theorem dX12_workIs_105 : decode cX12_workIs 105 = .ok (.ireturn, 1) := by decide +kernel
theorem dX12_workIs_106 : decode cX12_workIs 106 = .ok (.aload_n 0, 1) := by decide +kernel
theorem dX12_workIs_107 : decode cX12_workIs 107 = .ok (.iload_n 1, 1) := by decide +kernel
theorem dX12_workIs_108 : decode cX12_workIs 108 = .ok (.invokevirtual 265, 3) := by decide +kernel
theorem dX12_workIs_111 : decode cX12_workIs 111 = .ok (.ifCond .eq 16, 3) := by decide +kernel
theorem dX12_workIs_114 : decode cX12_workIs 114 = .ok (.aload_n 0, 1) := by decide +kernel
theorem dX12_workIs_115 : decode cX12_workIs 115 = .ok (.getfield 7, 3) := by decide +kernel
theorem dX12_workIs_118 : decode cX12_workIs 118 = .ok (.sipush 370, 3) := by decide +kernel
theorem dX12_workIs_121 : decode cX12_workIs 121 = .ok (.iload_n 1, 1) := by decide +kernel
theorem dX12_workIs_122 : decode cX12_workIs 122 = .ok (.iadd, 1) := by decide +kernel
theorem dX12_workIs_123 : decode cX12_workIs 123 = .ok (.iaload, 1) := by decide +kernel
theorem dX12_workIs_124 : decode cX12_workIs 124 = .ok (.goto 11, 3) := by decide +kernel
theorem dX12_workIs_127 : decode cX12_workIs 127 = .ok (.aload_n 0, 1) := by decide +kernel
theorem dX12_workIs_128 : decode cX12_workIs 128 = .ok (.getfield 7, 3) := by decide +kernel
theorem dX12_workIs_131 : decode cX12_workIs 131 = .ok (.sipush 379, 3) := by decide +kernel
theorem dX12_workIs_134 : decode cX12_workIs 134 = .ok (.iaload, 1) := by decide +kernel
theorem dX12_workIs_135 : decode cX12_workIs 135 = .ok (.aload_n 0, 1) := by decide +kernel
theorem dX12_workIs_136 : decode cX12_workIs 136 = .ok (.getfield 7, 3) := by decide +kernel
theorem dX12_workIs_139 : decode cX12_workIs 139 = .ok (.sipush 362, 3) := by decide +kernel
theorem dX12_workIs_142 : decode cX12_workIs 142 = .ok (.iload_n 1, 1) := by decide +kernel
theorem dX12_workIs_143 : decode cX12_workIs 143 = .ok (.iadd, 1) := by decide +kernel
theorem dX12_workIs_144 : decode cX12_workIs 144 = .ok (.iaload, 1) := by decide +kernel
theorem dX12_workIs_145 : decode cX12_workIs 145 = .ok (.if_icmp .gt 7, 3) := by decide +kernel
theorem dX12_workIs_148 : decode cX12_workIs 148 = .ok (.iconst 1, 1) := by decide +kernel
theorem dX12_workIs_149 : decode cX12_workIs 149 = .ok (.goto 4, 3) := by decide +kernel
theorem dX12_workIs_152 : decode cX12_workIs 152 = .ok (.iconst 0, 1) := by decide +kernel
theorem dX12_workIs_153 : decode cX12_workIs 153 = .ok (.ireturn, 1) := by decide +kernel
theorem dX12_workIs_154 : decode cX12_workIs 154 = .ok (.iconst (-1), 1) := by decide +kernel
theorem dX12_workIs_155 : decode cX12_workIs 155 = .ok (.ireturn, 1) := by decide +kernel
set_option maxRecDepth 20000 in
set_option maxHeartbeats 4000000 in
theorem m_workIs (E : xE) (l : Launch) (a : Nat → Nat) (cd : Cd) (hG : Good cd) (kf : Int32) (jn js jq : Lb) (ws : va_W) (hW : WX (okM E a cd kf jn js jq) ws) (p0 : Int32) (p1 : Int32) : xI E l yX12_workIs cX12_workIs 3 (some .int) 8 [.ref (a 0), .int p0, .int p1] ws (fun r w => WX (okM E a cd kf jn js jq) w) := by
  refine xI_start (lv := [(0, .ref (a 0)), (1, .int p0), (2, .int p1)]) RX12 (by decide) rfl (Nat.le_of_ble_eq_true rfl) rfl (fun p e s m below meth c A C hr hlk => ?_)
  refine x_aload_n C dX12_workIs_0 rfl 0 rfl rfl ?_
  refine x_iload_n C dX12_workIs_1 rfl 1 rfl rfl ?_
  obtain ⟨_, k1, n2, n4, n6, v8, v9, v10, n11, n13, n15, n17, v19, v20, v21, v22, n23, n25, bn3, bn5, bn7, bn12, bn14, bn16, bn18, bn24, bn26, rfl⟩ := hW 0 _ rfl
  refine x_vi C (As := [.int p0]) (rest := []) (m_isWork E l a cd hG kf jn js jq ws hW p0) mf_X12_isWork w_1427 0 k1 rfl rfl rfl (Nat.le_of_ble_eq_true rfl) ⟨(Nat.le_of_ble_eq_true rfl), (Nat.le_of_ble_eq_true rfl)⟩ ⟨(Nat.le_of_ble_eq_true rfl), (Nat.le_of_ble_eq_true rfl)⟩ dX12_workIs_2 rfl (fun r28 w29 h27 => ?_)
  obtain ⟨hW30, zb31, x32⟩ := h27
  refine x_ws hW30 ?_
  refine x_if_ne C (tgt := 10) dX12_workIs_5 (by decide) rfl (fun c33 => ?_) (fun c33 => ?_)
  · skip
    obtain ⟨j34, hl35, hh36, ej37⟩ := w_nat (a := 0) (b := 7) (by decide) (by decide) (x32 c33)
    subst ej37
    refine x_iload_n C dX12_workIs_10 rfl 2 rfl rfl ?_
    by_cases s38 : (p1).toInt < 0
    · refine x_tabOut C (tgt := 154) dX12_workIs_11 (Or.inl s38) (by decide) ?_
      refine x_iconst C (v := (-1)) dX12_workIs_154 (by decide) rfl ?_
      exact x_zret C hr hlk rfl dX12_workIs_155 hW
    by_cases s39 : 5 < (p1).toInt
    · refine x_tabOut C (tgt := 154) dX12_workIs_11 (Or.inr s39) (by decide) ?_
      refine x_iconst C (v := (-1)) dX12_workIs_154 (by decide) rfl ?_
      exact x_zret C hr hlk rfl dX12_workIs_155 hW
    by_cases s40 : p1 = 0
    · refine x_tabIn C (tgt := 48) dX12_workIs_11 (by rw [s40]; decide) (by rw [s40]; decide) (by rw [s40]; rfl) (by decide) ?_
      refine x_aload_n C dX12_workIs_48 rfl 0 rfl rfl ?_
      refine x_get C (ci := 11) (k := 0) 0 k1 rfl in_X12 (by decide) w_1118 rfl dX12_workIs_49 rfl ?_
      refine x_sipush C (v := 338) dX12_workIs_52 (by decide) rfl ?_
      refine x_iload_n C dX12_workIs_55 rfl 1 rfl rfl ?_
      refine x_iadd C (v := (nI (338 + j34))) dX12_workIs_56 (nI_add 338 j34) rfl ?_
      obtain ⟨_, k41, f42, pf43, rfl⟩ := hW 1 _ rfl
      refine x_iald C (v := (f42 (nI (338 + j34)).toNatClampNeg)) 1 k41 (vp_in_nI (by omega) (by decide)) rfl dX12_workIs_57 rfl ?_
      refine x_any (fun v44 => ?_)
      exact x_zret C hr hlk rfl dX12_workIs_58 hW
    have zs40 := sw_ne (by decide : (0 : Int32).toInt = 0) s40
    by_cases s45 : p1 = 1
    · refine x_tabIn C (tgt := 59) dX12_workIs_11 (by rw [s45]; decide) (by rw [s45]; decide) (by rw [s45]; rfl) (by decide) ?_
      refine x_aload_n C dX12_workIs_59 rfl 0 rfl rfl ?_
      refine x_get C (ci := 11) (k := 0) 0 k1 rfl in_X12 (by decide) w_1118 rfl dX12_workIs_60 rfl ?_
      refine x_sipush C (v := 346) dX12_workIs_63 (by decide) rfl ?_
      refine x_iload_n C dX12_workIs_66 rfl 1 rfl rfl ?_
      refine x_iadd C (v := (nI (346 + j34))) dX12_workIs_67 (nI_add 346 j34) rfl ?_
      obtain ⟨_, k46, f47, pf48, rfl⟩ := hW 1 _ rfl
      refine x_iald C (v := (f47 (nI (346 + j34)).toNatClampNeg)) 1 k46 (vp_in_nI (by omega) (by decide)) rfl dX12_workIs_68 rfl ?_
      refine x_any (fun v49 => ?_)
      exact x_zret C hr hlk rfl dX12_workIs_69 hW
    have zs45 := sw_ne (by decide : (1 : Int32).toInt = 1) s45
    by_cases s50 : p1 = 2
    · refine x_tabIn C (tgt := 70) dX12_workIs_11 (by rw [s50]; decide) (by rw [s50]; decide) (by rw [s50]; rfl) (by decide) ?_
      refine x_aload_n C dX12_workIs_70 rfl 0 rfl rfl ?_
      refine x_get C (ci := 11) (k := 0) 0 k1 rfl in_X12 (by decide) w_1118 rfl dX12_workIs_71 rfl ?_
      refine x_sipush C (v := 354) dX12_workIs_74 (by decide) rfl ?_
      refine x_iload_n C dX12_workIs_77 rfl 1 rfl rfl ?_
      refine x_iadd C (v := (nI (354 + j34))) dX12_workIs_78 (nI_add 354 j34) rfl ?_
      obtain ⟨_, k51, f52, pf53, rfl⟩ := hW 1 _ rfl
      refine x_iald C (v := (f52 (nI (354 + j34)).toNatClampNeg)) 1 k51 (vp_in_nI (by omega) (by decide)) rfl dX12_workIs_79 rfl ?_
      refine x_any (fun v54 => ?_)
      exact x_zret C hr hlk rfl dX12_workIs_80 hW
    have zs50 := sw_ne (by decide : (2 : Int32).toInt = 2) s50
    by_cases s55 : p1 = 3
    · refine x_tabIn C (tgt := 81) dX12_workIs_11 (by rw [s55]; decide) (by rw [s55]; decide) (by rw [s55]; rfl) (by decide) ?_
      refine x_aload_n C dX12_workIs_81 rfl 0 rfl rfl ?_
      refine x_get C (ci := 11) (k := 0) 0 k1 rfl in_X12 (by decide) w_1118 rfl dX12_workIs_82 rfl ?_
      refine x_sipush C (v := 362) dX12_workIs_85 (by decide) rfl ?_
      refine x_iload_n C dX12_workIs_88 rfl 1 rfl rfl ?_
      refine x_iadd C (v := (nI (362 + j34))) dX12_workIs_89 (nI_add 362 j34) rfl ?_
      obtain ⟨_, k56, f57, pf58, rfl⟩ := hW 1 _ rfl
      refine x_iald C (v := (f57 (nI (362 + j34)).toNatClampNeg)) 1 k56 (vp_in_nI (by omega) (by decide)) rfl dX12_workIs_90 rfl ?_
      refine x_any (fun v59 => ?_)
      exact x_zret C hr hlk rfl dX12_workIs_91 hW
    have zs55 := sw_ne (by decide : (3 : Int32).toInt = 3) s55
    by_cases s60 : p1 = 4
    · refine x_tabIn C (tgt := 92) dX12_workIs_11 (by rw [s60]; decide) (by rw [s60]; decide) (by rw [s60]; rfl) (by decide) ?_
      refine x_aload_n C dX12_workIs_92 rfl 0 rfl rfl ?_
      refine x_iload_n C dX12_workIs_93 rfl 1 rfl rfl ?_
      refine x_vi C (As := [.int (nI j34)]) (rest := []) (m_isDone E l a cd hG kf jn js jq ws hW j34 (by omega)) mf_X12_isDone w_1431 0 k1 rfl rfl rfl (Nat.le_of_ble_eq_true rfl) ⟨(Nat.le_of_ble_eq_true rfl), (Nat.le_of_ble_eq_true rfl)⟩ ⟨(Nat.le_of_ble_eq_true rfl), (Nat.le_of_ble_eq_true rfl)⟩ dX12_workIs_94 rfl (fun r62 w63 h61 => ?_)
      obtain ⟨hW64, zb65⟩ := h61
      refine x_ws hW64 ?_
      refine x_if_eq C (tgt := 104) dX12_workIs_97 (by decide) rfl (fun c66 => ?_) (fun c66 => ?_)
      · skip
        refine x_iconst C (v := 0) dX12_workIs_104 (by decide) rfl ?_
        exact x_zret C hr hlk rfl dX12_workIs_105 hW
      · skip
        refine x_iconst C (v := 1) dX12_workIs_100 (by decide) rfl ?_
        refine x_goto C (tgt := 105) dX12_workIs_101 (by decide) ?_
        exact x_zret C hr hlk rfl dX12_workIs_105 hW
    have zs60 := sw_ne (by decide : (4 : Int32).toInt = 4) s60
    have s67 : p1 = 5 := sw_last (n := 5) (by decide) s38 s39 (by omega)
    refine x_tabIn C (tgt := 106) dX12_workIs_11 (by rw [s67]; decide) (by rw [s67]; decide) (by rw [s67]; rfl) (by decide) ?_
    refine x_aload_n C dX12_workIs_106 rfl 0 rfl rfl ?_
    refine x_iload_n C dX12_workIs_107 rfl 1 rfl rfl ?_
    refine x_vi C (As := [.int (nI j34)]) (rest := []) (m_isDone E l a cd hG kf jn js jq ws hW j34 (by omega)) mf_X12_isDone w_1431 0 k1 rfl rfl rfl (Nat.le_of_ble_eq_true rfl) ⟨(Nat.le_of_ble_eq_true rfl), (Nat.le_of_ble_eq_true rfl)⟩ ⟨(Nat.le_of_ble_eq_true rfl), (Nat.le_of_ble_eq_true rfl)⟩ dX12_workIs_108 rfl (fun r69 w70 h68 => ?_)
    obtain ⟨hW71, zb72⟩ := h68
    refine x_ws hW71 ?_
    refine x_if_eq C (tgt := 127) dX12_workIs_111 (by decide) rfl (fun c73 => ?_) (fun c73 => ?_)
    · skip
      refine x_aload_n C dX12_workIs_127 rfl 0 rfl rfl ?_
      refine x_get C (ci := 11) (k := 0) 0 k1 rfl in_X12 (by decide) w_1118 rfl dX12_workIs_128 rfl ?_
      refine x_sipush C (v := 379) dX12_workIs_131 (by decide) rfl ?_
      obtain ⟨_, k74, f75, pf76, rfl⟩ := hW 1 _ rfl
      obtain ⟨n77, hn78, en79⟩ := NB_day pf76
      refine x_ialk C (v := nI n77) 379 (by decide) (by decide) (by decide) 1 k74 en79 dX12_workIs_134 rfl ?_
      refine x_aload_n C dX12_workIs_135 rfl 0 rfl rfl ?_
      refine x_get C (ci := 11) (k := 0) 0 k1 rfl in_X12 (by decide) w_1118 rfl dX12_workIs_136 rfl ?_
      refine x_sipush C (v := 362) dX12_workIs_139 (by decide) rfl ?_
      refine x_iload_n C dX12_workIs_142 rfl 1 rfl rfl ?_
      refine x_iadd C (v := (nI (362 + j34))) dX12_workIs_143 (nI_add 362 j34) rfl ?_
      refine x_iald C (v := (f75 (nI (362 + j34)).toNatClampNeg)) 1 k74 (vp_in_nI (by omega) (by decide)) rfl dX12_workIs_144 rfl ?_
      refine x_any (fun v80 => ?_)
      refine x_icmp_gt C (tgt := 152) dX12_workIs_145 (by decide) rfl (fun c81 => ?_) (fun c81 => ?_)
      · skip
        refine x_iconst C (v := 0) dX12_workIs_152 (by decide) rfl ?_
        exact x_zret C hr hlk rfl dX12_workIs_153 hW
      · skip
        refine x_iconst C (v := 1) dX12_workIs_148 (by decide) rfl ?_
        refine x_goto C (tgt := 153) dX12_workIs_149 (by decide) ?_
        exact x_zret C hr hlk rfl dX12_workIs_153 hW
    · skip
      refine x_aload_n C dX12_workIs_114 rfl 0 rfl rfl ?_
      refine x_get C (ci := 11) (k := 0) 0 k1 rfl in_X12 (by decide) w_1118 rfl dX12_workIs_115 rfl ?_
      refine x_sipush C (v := 370) dX12_workIs_118 (by decide) rfl ?_
      refine x_iload_n C dX12_workIs_121 rfl 1 rfl rfl ?_
      refine x_iadd C (v := (nI (370 + j34))) dX12_workIs_122 (nI_add 370 j34) rfl ?_
      obtain ⟨_, k82, f83, pf84, rfl⟩ := hW 1 _ rfl
      refine x_iald C (v := (f83 (nI (370 + j34)).toNatClampNeg)) 1 k82 (vp_in_nI (by omega) (by decide)) rfl dX12_workIs_123 rfl ?_
      refine x_any (fun v85 => ?_)
      refine x_goto C (tgt := 135) dX12_workIs_124 (by decide) ?_
      refine x_aload_n C dX12_workIs_135 rfl 0 rfl rfl ?_
      refine x_get C (ci := 11) (k := 0) 0 k1 rfl in_X12 (by decide) w_1118 rfl dX12_workIs_136 rfl ?_
      refine x_sipush C (v := 362) dX12_workIs_139 (by decide) rfl ?_
      refine x_iload_n C dX12_workIs_142 rfl 1 rfl rfl ?_
      refine x_iadd C (v := (nI (362 + j34))) dX12_workIs_143 (nI_add 362 j34) rfl ?_
      refine x_iald C (v := (f83 (nI (362 + j34)).toNatClampNeg)) 1 k82 (vp_in_nI (by omega) (by decide)) rfl dX12_workIs_144 rfl ?_
      refine x_any (fun v86 => ?_)
      refine x_icmp_gt C (tgt := 152) dX12_workIs_145 (by decide) rfl (fun c87 => ?_) (fun c87 => ?_)
      · skip
        refine x_iconst C (v := 0) dX12_workIs_152 (by decide) rfl ?_
        exact x_zret C hr hlk rfl dX12_workIs_153 hW
      · skip
        refine x_iconst C (v := 1) dX12_workIs_148 (by decide) rfl ?_
        refine x_goto C (tgt := 153) dX12_workIs_149 (by decide) ?_
        exact x_zret C hr hlk rfl dX12_workIs_153 hW
  · skip
    refine x_iconst C (v := (-1)) dX12_workIs_8 (by decide) rfl ?_
    exact x_zret C hr hlk rfl dX12_workIs_9 hW
theorem dX12_draws_0 : decode cX12_draws 0 = .ok (.aload_n 0, 1) := by decide +kernel
theorem dX12_draws_1 : decode cX12_draws 1 = .ok (.getfield 7, 3) := by decide +kernel
theorem dX12_draws_4 : decode cX12_draws 4 = .ok (.sipush 380, 3) := by decide +kernel
theorem dX12_draws_7 : decode cX12_draws 7 = .ok (.sipush 25173, 3) := by decide +kernel
theorem dX12_draws_10 : decode cX12_draws 10 = .ok (.aload_n 0, 1) := by decide +kernel
theorem dX12_draws_11 : decode cX12_draws 11 = .ok (.getfield 7, 3) := by decide +kernel
theorem dX12_draws_14 : decode cX12_draws 14 = .ok (.sipush 380, 3) := by decide +kernel
theorem dX12_draws_17 : decode cX12_draws 17 = .ok (.iaload, 1) := by decide +kernel
theorem dX12_draws_18 : decode cX12_draws 18 = .ok (.imul, 1) := by decide +kernel
theorem dX12_draws_19 : decode cX12_draws 19 = .ok (.sipush 13849, 3) := by decide +kernel
theorem dX12_draws_22 : decode cX12_draws 22 = .ok (.iadd, 1) := by decide +kernel
theorem dX12_draws_23 : decode cX12_draws 23 = .ok (.ldc_w 303, 3) := by decide +kernel
theorem dX12_draws_26 : decode cX12_draws 26 = .ok (.irem, 1) := by decide +kernel
theorem dX12_draws_27 : decode cX12_draws 27 = .ok (.iastore, 1) := by decide +kernel
theorem dX12_draws_28 : decode cX12_draws 28 = .ok (.aload_n 0, 1) := by decide +kernel
theorem dX12_draws_29 : decode cX12_draws 29 = .ok (.getfield 7, 3) := by decide +kernel
theorem dX12_draws_32 : decode cX12_draws 32 = .ok (.sipush 380, 3) := by decide +kernel
theorem dX12_draws_35 : decode cX12_draws 35 = .ok (.iaload, 1) := by decide +kernel
theorem dX12_draws_36 : decode cX12_draws 36 = .ok (.bipush 10, 2) := by decide +kernel
theorem dX12_draws_38 : decode cX12_draws 38 = .ok (.irem, 1) := by decide +kernel
theorem dX12_draws_39 : decode cX12_draws 39 = .ok (.ireturn, 1) := by decide +kernel
set_option maxRecDepth 20000 in
set_option maxHeartbeats 4000000 in
theorem m_draws (E : xE) (l : Launch) (a : Nat → Nat) (cd : Cd) (hG : Good cd) (kf : Int32) (jn js jq : Lb) (ws : va_W) (hW : WX (okM E a cd kf jn js jq) ws) : xI E l yX12_draws cX12_draws 1 (some .int) 0 [.ref (a 0)] ws (fun r w => WX (okM E a cd kf jn js jq) w ∧ keeps ws w (fun q => q = 1) ∧ (dwK E a ws w)) := by
  refine xI_start (lv := [(0, .ref (a 0))]) RX12 (by decide) rfl (Nat.le_of_ble_eq_true rfl) rfl (fun p e s m below meth c A C hr hlk => ?_)
  have kp0 : keeps ws ws (fun q => q = 1) := keeps_rf
  obtain ⟨_, k1, f2, pf3, rfl⟩ := hW 1 _ rfl
  refine x_aload_n C dX12_draws_0 rfl 0 rfl rfl ?_
  obtain ⟨_, k4, n5, n7, n9, v11, v12, v13, n14, n16, n18, n20, v22, v23, v24, v25, n26, n28, bn6, bn8, bn10, bn15, bn17, bn19, bn21, bn27, bn29, rfl⟩ := hW 0 _ rfl
  refine x_get C (ci := 11) (k := 0) 0 k4 rfl in_X12 (by decide) w_1118 rfl dX12_draws_1 rfl ?_
  refine x_sipush C (v := 380) dX12_draws_4 (by decide) rfl ?_
  refine x_sipush C (v := 25173) dX12_draws_7 (by decide) rfl ?_
  refine x_aload_n C dX12_draws_10 rfl 0 rfl rfl ?_
  refine x_get C (ci := 11) (k := 0) 0 k4 rfl in_X12 (by decide) w_1118 rfl dX12_draws_11 rfl ?_
  refine x_sipush C (v := 380) dX12_draws_14 (by decide) rfl ?_
  refine x_iald C (v := (f2 (380 : Int32).toNatClampNeg)) 1 k1 (vp_k (j := 380) (by decide) (by decide) (by decide)) rfl dX12_draws_17 rfl ?_
  refine x_any (fun v30 => ?_)
  refine x_imul C (v := ((25173 : Int32) * v30)) dX12_draws_18 rfl rfl ?_
  refine x_any (fun v31 => ?_)
  refine x_sipush C (v := 13849) dX12_draws_19 (by decide) rfl ?_
  refine x_iadd C (v := (v31 + (13849 : Int32))) dX12_draws_22 rfl rfl ?_
  refine x_any (fun v32 => ?_)
  refine x_ldcw C w_1509 dX12_draws_23 rfl ?_
  refine x_irem C (v := (v32 - v32 / (65536 : Int32) * (65536 : Int32))) dX12_draws_26 (by decide) rfl rfl ?_
  refine x_any (fun v33 => ?_)
  have pf34 : NB jn (upd f2 380 v33) := NB_free pf3 (by unfold bd; omega)
  obtain ⟨w35, hw36⟩ : ∃ w : va_W, w = List.set ws 1 (iA E (a 1) 382 (upd f2 380 v33)) := ⟨_, rfl⟩
  refine x_iask C 380 (by decide) (by decide) (by decide) 1 k1 hw36.symm dX12_draws_27 rfl ?_
  have hW37 : WX (okM E a cd kf jn js jq) w35 := by rw [hw36]; exact hW.set (k := 1) rfl ⟨_, pf34, rfl⟩
  have k38 : w35[1]? = some (iA E (a 1) 382 (upd f2 380 v33)) := by rw [hw36]; exact set_eq k1
  have k39 : w35[0]? = some (ob (a 0) 11 [.ref (a 1), .ref (a 2), .ref (a 3), .ref (a 4), .int (nI n5), .int (nI n7), .int (nI n9), .int v11, .int v12, .int v13, .int (nI n14), .int (nI n16), .int (nI n18), .int (nI (cd.2.2.2.2.2)), .ref (a 5), .ref (a 6), .ref (a 7), .ref (a 8), .ref (a 9), .ref (a 10), .ref (a 11), .ref (a 12), .ref (a 13), .ref (a 14), .ref (a 15), .ref (a 16), .ref (a 17), .int (nI n20), .ref (a 18), .ref (a 19), .ref (a 20), .ref (a 21), .int v22, .int v23, .int v24, .int v25, .int (nI n26), .int (nI n28), .ref (a 22), .ref (a 23), .ref (a 24), .ref (a 25), .ref (a 26), .ref (a 27), .ref (a 28), .ref (a 29), .ref (a 30), .int kf]) := by rw [hw36]; exact set_ne k4 (by decide)
  have kp40 := keeps_set kp0 hw36 (by first | exact rfl | decide | omega | (dsimp only; omega))
  refine x_aload_n C dX12_draws_28 rfl 0 rfl rfl ?_
  refine x_get C (ci := 11) (k := 0) 0 k39 rfl in_X12 (by decide) w_1118 rfl dX12_draws_29 rfl ?_
  refine x_sipush C (v := 380) dX12_draws_32 (by decide) rfl ?_
  refine x_iald C (v := ((upd f2 380 v33) (380 : Int32).toNatClampNeg)) 1 k38 (vp_k (j := 380) (by decide) (by decide) (by decide)) rfl dX12_draws_35 rfl ?_
  refine x_any (fun v41 => ?_)
  refine x_bipush C (v := 10) dX12_draws_36 (by decide) rfl ?_
  refine x_irem C (v := (v41 - v41 / (10 : Int32) * (10 : Int32))) dX12_draws_38 (by decide) rfl rfl ?_
  refine x_any (fun v42 => ?_)
  exact x_zret C hr hlk rfl dX12_draws_39 ⟨hW37, kp40, (fun f hf => ⟨v33, by have q9 := iA_inj (hf.symm.trans k1); rw [q9]; exact k38⟩)⟩
theorem dX12_latest_0 : decode cX12_latest 0 = .ok (.aload_n 0, 1) := by decide +kernel
theorem dX12_latest_1 : decode cX12_latest 1 = .ok (.iload_n 1, 1) := by decide +kernel
theorem dX12_latest_2 : decode cX12_latest 2 = .ok (.invokevirtual 262, 3) := by decide +kernel
theorem dX12_latest_5 : decode cX12_latest 5 = .ok (.ifCond .eq 14, 3) := by decide +kernel
theorem dX12_latest_8 : decode cX12_latest 8 = .ok (.iload_n 2, 1) := by decide +kernel
theorem dX12_latest_9 : decode cX12_latest 9 = .ok (.iconst 1, 1) := by decide +kernel
theorem dX12_latest_10 : decode cX12_latest 10 = .ok (.sipush 999, 3) := by decide +kernel
theorem dX12_latest_13 : decode cX12_latest 13 = .ok (.invokestatic 109, 3) := by decide +kernel
theorem dX12_latest_16 : decode cX12_latest 16 = .ok (.ifCond .ne 5, 3) := by decide +kernel
theorem dX12_latest_19 : decode cX12_latest 19 = .ok (.iconst (-1), 1) := by decide +kernel
theorem dX12_latest_20 : decode cX12_latest 20 = .ok (.ireturn, 1) := by decide +kernel
theorem dX12_latest_21 : decode cX12_latest 21 = .ok (.aload_n 0, 1) := by decide +kernel
theorem dX12_latest_22 : decode cX12_latest 22 = .ok (.iload_n 1, 1) := by decide +kernel
theorem dX12_latest_23 : decode cX12_latest 23 = .ok (.invokevirtual 265, 3) := by decide +kernel
theorem dX12_latest_26 : decode cX12_latest 26 = .ok (.ifCond .eq 6, 3) := by decide +kernel
theorem dX12_latest_29 : decode cX12_latest 29 = .ok (.bipush (-3), 2) := by decide +kernel
theorem dX12_latest_31 : decode cX12_latest 31 = .ok (.ireturn, 1) := by decide +kernel
theorem dX12_latest_32 : decode cX12_latest 32 = .ok (.aload_n 0, 1) := by decide +kernel
theorem dX12_latest_33 : decode cX12_latest 33 = .ok (.getfield 7, 3) := by decide +kernel
theorem dX12_latest_36 : decode cX12_latest 36 = .ok (.sipush 338, 3) := by decide +kernel
theorem dX12_latest_39 : decode cX12_latest 39 = .ok (.iload_n 1, 1) := by decide +kernel
theorem dX12_latest_40 : decode cX12_latest 40 = .ok (.iadd, 1) := by decide +kernel
theorem dX12_latest_41 : decode cX12_latest 41 = .ok (.iaload, 1) := by decide +kernel
theorem dX12_latest_42 : decode cX12_latest 42 = .ok (.aload_n 0, 1) := by decide +kernel
theorem dX12_latest_43 : decode cX12_latest 43 = .ok (.getfield 7, 3) := by decide +kernel
theorem dX12_latest_46 : decode cX12_latest 46 = .ok (.sipush 346, 3) := by decide +kernel
theorem dX12_latest_49 : decode cX12_latest 49 = .ok (.iload_n 1, 1) := by decide +kernel
theorem dX12_latest_50 : decode cX12_latest 50 = .ok (.iadd, 1) := by decide +kernel
theorem dX12_latest_51 : decode cX12_latest 51 = .ok (.iaload, 1) := by decide +kernel
theorem dX12_latest_52 : decode cX12_latest 52 = .ok (.isub, 1) := by decide +kernel
theorem dX12_latest_53 : decode cX12_latest 53 = .ok (.iload_n 2, 1) := by decide +kernel
theorem dX12_latest_54 : decode cX12_latest 54 = .ok (.iadd, 1) := by decide +kernel
theorem dX12_latest_55 : decode cX12_latest 55 = .ok (.iconst 1, 1) := by decide +kernel
theorem dX12_latest_56 : decode cX12_latest 56 = .ok (.isub, 1) := by decide +kernel
theorem dX12_latest_57 : decode cX12_latest 57 = .ok (.iload_n 2, 1) := by decide +kernel
theorem dX12_latest_58 : decode cX12_latest 58 = .ok (.idiv, 1) := by decide +kernel
theorem dX12_latest_59 : decode cX12_latest 59 = .ok (.istore_n 3, 1) := by decide +kernel
theorem dX12_latest_60 : decode cX12_latest 60 = .ok (.aload_n 0, 1) := by decide +kernel
theorem dX12_latest_61 : decode cX12_latest 61 = .ok (.getfield 7, 3) := by decide +kernel
theorem dX12_latest_64 : decode cX12_latest 64 = .ok (.sipush 362, 3) := by decide +kernel
theorem dX12_latest_67 : decode cX12_latest 67 = .ok (.iload_n 1, 1) := by decide +kernel
theorem dX12_latest_68 : decode cX12_latest 68 = .ok (.iadd, 1) := by decide +kernel
theorem dX12_latest_69 : decode cX12_latest 69 = .ok (.iaload, 1) := by decide +kernel
theorem dX12_latest_70 : decode cX12_latest 70 = .ok (.iload_n 3, 1) := by decide +kernel
theorem dX12_latest_71 : decode cX12_latest 71 = .ok (.isub, 1) := by decide +kernel
theorem dX12_latest_72 : decode cX12_latest 72 = .ok (.iconst 1, 1) := by decide +kernel
theorem dX12_latest_73 : decode cX12_latest 73 = .ok (.iadd, 1) := by decide +kernel
theorem dX12_latest_74 : decode cX12_latest 74 = .ok (.istore 4, 2) := by decide +kernel
theorem dX12_latest_76 : decode cX12_latest 76 = .ok (.iload 4, 2) := by decide +kernel
theorem dX12_latest_78 : decode cX12_latest 78 = .ok (.aload_n 0, 1) := by decide +kernel
theorem dX12_latest_79 : decode cX12_latest 79 = .ok (.getfield 7, 3) := by decide +kernel
theorem dX12_latest_82 : decode cX12_latest 82 = .ok (.sipush 379, 3) := by decide +kernel
theorem dX12_latest_85 : decode cX12_latest 85 = .ok (.iaload, 1) := by decide +kernel
theorem dX12_latest_86 : decode cX12_latest 86 = .ok (.if_icmp .ge 8, 3) := by decide +kernel
theorem dX12_latest_89 : decode cX12_latest 89 = .ok (.bipush (-2), 2) := by decide +kernel
theorem dX12_latest_91 : decode cX12_latest 91 = .ok (.goto 5, 3) := by decide +kernel
theorem dX12_latest_94 : decode cX12_latest 94 = .ok (.iload 4, 2) := by decide +kernel
theorem dX12_latest_96 : decode cX12_latest 96 = .ok (.ireturn, 1) := by decide +kernel
set_option maxRecDepth 20000 in
set_option maxHeartbeats 4000000 in
theorem m_latest (E : xE) (l : Launch) (a : Nat → Nat) (cd : Cd) (hG : Good cd) (kf : Int32) (jn js jq : Lb) (ws : va_W) (hW : WX (okM E a cd kf jn js jq) ws) (p0 : Int32) (p1 : Int32) : xI E l yX12_latest cX12_latest 5 (some .int) 8 [.ref (a 0), .int p0, .int p1] ws (fun r w => WX (okM E a cd kf jn js jq) w) := by
  refine xI_start (lv := [(0, .ref (a 0)), (1, .int p0), (2, .int p1)]) RX12 (by decide) rfl (Nat.le_of_ble_eq_true rfl) rfl (fun p e s m below meth c A C hr hlk => ?_)
  refine x_aload_n C dX12_latest_0 rfl 0 rfl rfl ?_
  refine x_iload_n C dX12_latest_1 rfl 1 rfl rfl ?_
  obtain ⟨_, k1, n2, n4, n6, v8, v9, v10, n11, n13, n15, n17, v19, v20, v21, v22, n23, n25, bn3, bn5, bn7, bn12, bn14, bn16, bn18, bn24, bn26, rfl⟩ := hW 0 _ rfl
  refine x_vi C (As := [.int p0]) (rest := []) (m_isWork E l a cd hG kf jn js jq ws hW p0) mf_X12_isWork w_1427 0 k1 rfl rfl rfl (Nat.le_of_ble_eq_true rfl) ⟨(Nat.le_of_ble_eq_true rfl), (Nat.le_of_ble_eq_true rfl)⟩ ⟨(Nat.le_of_ble_eq_true rfl), (Nat.le_of_ble_eq_true rfl)⟩ dX12_latest_2 rfl (fun r28 w29 h27 => ?_)
  obtain ⟨hW30, zb31, x32⟩ := h27
  refine x_ws hW30 ?_
  refine x_if_eq C (tgt := 19) dX12_latest_5 (by decide) rfl (fun c33 => ?_) (fun c33 => ?_)
  · skip
    refine x_iconst C (v := (-1)) dX12_latest_19 (by decide) rfl ?_
    exact x_zret C hr hlk rfl dX12_latest_20 hW
  · skip
    obtain ⟨j34, hl35, hh36, ej37⟩ := w_nat (a := 0) (b := 7) (by decide) (by decide) (x32 c33)
    subst ej37
    refine x_iload_n C dX12_latest_8 rfl 2 rfl rfl ?_
    refine x_iconst C (v := 1) dX12_latest_9 (by decide) rfl ?_
    refine x_sipush C (v := 999) dX12_latest_10 (by decide) rfl ?_
    refine x_si C (As := [.int p1, .int 1, .int 999]) (rest := []) (m_in E l a cd hG kf jn js jq ws hW p1 (1 : Int32) (999 : Int32)) mf_X12_in w_1267 rfl rfl (Nat.le_of_ble_eq_true rfl) ⟨(Nat.le_of_ble_eq_true rfl), (Nat.le_of_ble_eq_true rfl)⟩ ⟨(Nat.le_of_ble_eq_true rfl), (Nat.le_of_ble_eq_true rfl)⟩ dX12_latest_13 rfl (fun r39 w40 h38 => ?_)
    obtain ⟨hW41, zb42, x43⟩ := h38
    refine x_ws hW41 ?_
    refine x_if_ne C (tgt := 21) dX12_latest_16 (by decide) rfl (fun c44 => ?_) (fun c44 => ?_)
    · skip
      obtain ⟨j45, hl46, hh47, ej48⟩ := w_nat (a := 1) (b := 999) (by decide) (by decide) (x43 c44)
      subst ej48
      refine x_aload_n C dX12_latest_21 rfl 0 rfl rfl ?_
      refine x_iload_n C dX12_latest_22 rfl 1 rfl rfl ?_
      refine x_vi C (As := [.int (nI j34)]) (rest := []) (m_isDone E l a cd hG kf jn js jq ws hW j34 (by omega)) mf_X12_isDone w_1431 0 k1 rfl rfl rfl (Nat.le_of_ble_eq_true rfl) ⟨(Nat.le_of_ble_eq_true rfl), (Nat.le_of_ble_eq_true rfl)⟩ ⟨(Nat.le_of_ble_eq_true rfl), (Nat.le_of_ble_eq_true rfl)⟩ dX12_latest_23 rfl (fun r50 w51 h49 => ?_)
      obtain ⟨hW52, zb53⟩ := h49
      refine x_ws hW52 ?_
      refine x_if_eq C (tgt := 32) dX12_latest_26 (by decide) rfl (fun c54 => ?_) (fun c54 => ?_)
      · skip
        refine x_aload_n C dX12_latest_32 rfl 0 rfl rfl ?_
        refine x_get C (ci := 11) (k := 0) 0 k1 rfl in_X12 (by decide) w_1118 rfl dX12_latest_33 rfl ?_
        refine x_sipush C (v := 338) dX12_latest_36 (by decide) rfl ?_
        refine x_iload_n C dX12_latest_39 rfl 1 rfl rfl ?_
        refine x_iadd C (v := (nI (338 + j34))) dX12_latest_40 (nI_add 338 j34) rfl ?_
        obtain ⟨_, k55, f56, pf57, rfl⟩ := hW 1 _ rfl
        refine x_iald C (v := (f56 (nI (338 + j34)).toNatClampNeg)) 1 k55 (vp_in_nI (by omega) (by decide)) rfl dX12_latest_41 rfl ?_
        refine x_any (fun v58 => ?_)
        refine x_aload_n C dX12_latest_42 rfl 0 rfl rfl ?_
        refine x_get C (ci := 11) (k := 0) 0 k1 rfl in_X12 (by decide) w_1118 rfl dX12_latest_43 rfl ?_
        refine x_sipush C (v := 346) dX12_latest_46 (by decide) rfl ?_
        refine x_iload_n C dX12_latest_49 rfl 1 rfl rfl ?_
        refine x_iadd C (v := (nI (346 + j34))) dX12_latest_50 (nI_add 346 j34) rfl ?_
        refine x_iald C (v := (f56 (nI (346 + j34)).toNatClampNeg)) 1 k55 (vp_in_nI (by omega) (by decide)) rfl dX12_latest_51 rfl ?_
        refine x_any (fun v59 => ?_)
        refine x_isub C (v := (v58 - v59)) dX12_latest_52 rfl rfl ?_
        refine x_any (fun v60 => ?_)
        refine x_iload_n C dX12_latest_53 rfl 2 rfl rfl ?_
        refine x_iadd C (v := (v60 + (nI j45))) dX12_latest_54 rfl rfl ?_
        refine x_any (fun v61 => ?_)
        refine x_iconst C (v := 1) dX12_latest_55 (by decide) rfl ?_
        refine x_isub C (v := (v61 - (1 : Int32))) dX12_latest_56 rfl rfl ?_
        refine x_any (fun v62 => ?_)
        refine x_iload_n C dX12_latest_57 rfl 2 rfl rfl ?_
        refine x_idiv C (v := (v62 / (nI j45))) dX12_latest_58 (nz (by omega) (by omega)) rfl rfl ?_
        refine x_any (fun v63 => ?_)
        refine x_istore_n C (lv' := [(3, .int v63), (0, .ref (a 0)), (1, .int (nI j34)), (2, .int (nI j45))]) dX12_latest_59 rfl (by decide) rfl rfl ?_
        refine x_aload_n C dX12_latest_60 rfl 1 rfl rfl ?_
        refine x_get C (ci := 11) (k := 0) 0 k1 rfl in_X12 (by decide) w_1118 rfl dX12_latest_61 rfl ?_
        refine x_sipush C (v := 362) dX12_latest_64 (by decide) rfl ?_
        refine x_iload_n C dX12_latest_67 rfl 2 rfl rfl ?_
        refine x_iadd C (v := (nI (362 + j34))) dX12_latest_68 (nI_add 362 j34) rfl ?_
        refine x_iald C (v := (f56 (nI (362 + j34)).toNatClampNeg)) 1 k55 (vp_in_nI (by omega) (by decide)) rfl dX12_latest_69 rfl ?_
        refine x_any (fun v64 => ?_)
        refine x_iload_n C dX12_latest_70 rfl 0 rfl rfl ?_
        refine x_isub C (v := (v64 - v63)) dX12_latest_71 rfl rfl ?_
        refine x_any (fun v65 => ?_)
        refine x_iconst C (v := 1) dX12_latest_72 (by decide) rfl ?_
        refine x_iadd C (v := (v65 + (1 : Int32))) dX12_latest_73 rfl rfl ?_
        refine x_any (fun v66 => ?_)
        refine x_istore C (lv' := [(4, .int v66), (3, .int v63), (0, .ref (a 0)), (1, .int (nI j34)), (2, .int (nI j45))]) dX12_latest_74 (by decide) rfl rfl ?_
        refine x_iload C dX12_latest_76 0 rfl rfl ?_
        refine x_aload_n C dX12_latest_78 rfl 2 rfl rfl ?_
        refine x_get C (ci := 11) (k := 0) 0 k1 rfl in_X12 (by decide) w_1118 rfl dX12_latest_79 rfl ?_
        refine x_sipush C (v := 379) dX12_latest_82 (by decide) rfl ?_
        obtain ⟨n67, hn68, en69⟩ := NB_day pf57
        refine x_ialk C (v := nI n67) 379 (by decide) (by decide) (by decide) 1 k55 en69 dX12_latest_85 rfl ?_
        refine x_icmp_ge C (tgt := 94) dX12_latest_86 (by decide) rfl (fun c70 => ?_) (fun c70 => ?_)
        · skip
          refine x_iload C dX12_latest_94 0 rfl rfl ?_
          exact x_zret C hr hlk rfl dX12_latest_96 hW
        · skip
          refine x_bipush C (v := (-2)) dX12_latest_89 (by decide) rfl ?_
          refine x_goto C (tgt := 96) dX12_latest_91 (by decide) ?_
          exact x_zret C hr hlk rfl dX12_latest_96 hW
      · skip
        refine x_bipush C (v := (-3)) dX12_latest_29 (by decide) rfl ?_
        exact x_zret C hr hlk rfl dX12_latest_31 hW
    · skip
      refine x_iconst C (v := (-1)) dX12_latest_19 (by decide) rfl ?_
      exact x_zret C hr hlk rfl dX12_latest_20 hW
theorem dX12_moreOf_0 : decode cX12_moreOf 0 = .ok (.aload_n 0, 1) := by decide +kernel
theorem dX12_moreOf_1 : decode cX12_moreOf 1 = .ok (.getfield 7, 3) := by decide +kernel
theorem dX12_moreOf_4 : decode cX12_moreOf 4 = .ok (.sipush 288, 3) := by decide +kernel
theorem dX12_moreOf_7 : decode cX12_moreOf 7 = .ok (.iload_n 1, 1) := by decide +kernel
theorem dX12_moreOf_8 : decode cX12_moreOf 8 = .ok (.iadd, 1) := by decide +kernel
theorem dX12_moreOf_9 : decode cX12_moreOf 9 = .ok (.iaload, 1) := by decide +kernel
theorem dX12_moreOf_10 : decode cX12_moreOf 10 = .ok (.aload_n 0, 1) := by decide +kernel
theorem dX12_moreOf_11 : decode cX12_moreOf 11 = .ok (.getfield 7, 3) := by decide +kernel
theorem dX12_moreOf_14 : decode cX12_moreOf 14 = .ok (.sipush 296, 3) := by decide +kernel
theorem dX12_moreOf_17 : decode cX12_moreOf 17 = .ok (.iload_n 1, 1) := by decide +kernel
theorem dX12_moreOf_18 : decode cX12_moreOf 18 = .ok (.iadd, 1) := by decide +kernel
theorem dX12_moreOf_19 : decode cX12_moreOf 19 = .ok (.iaload, 1) := by decide +kernel
theorem dX12_moreOf_20 : decode cX12_moreOf 20 = .ok (.isub, 1) := by decide +kernel
theorem dX12_moreOf_21 : decode cX12_moreOf 21 = .ok (.aload_n 0, 1) := by decide +kernel
theorem dX12_moreOf_22 : decode cX12_moreOf 22 = .ok (.getfield 7, 3) := by decide +kernel
theorem dX12_moreOf_25 : decode cX12_moreOf 25 = .ok (.sipush 304, 3) := by decide +kernel
theorem dX12_moreOf_28 : decode cX12_moreOf 28 = .ok (.iload_n 1, 1) := by decide +kernel
theorem dX12_moreOf_29 : decode cX12_moreOf 29 = .ok (.iadd, 1) := by decide +kernel
theorem dX12_moreOf_30 : decode cX12_moreOf 30 = .ok (.iaload, 1) := by decide +kernel
theorem dX12_moreOf_31 : decode cX12_moreOf 31 = .ok (.isub, 1) := by decide +kernel
theorem dX12_moreOf_32 : decode cX12_moreOf 32 = .ok (.aload_n 0, 1) := by decide +kernel
theorem dX12_moreOf_33 : decode cX12_moreOf 33 = .ok (.getfield 7, 3) := by decide +kernel
theorem dX12_moreOf_36 : decode cX12_moreOf 36 = .ok (.sipush 312, 3) := by decide +kernel
theorem dX12_moreOf_39 : decode cX12_moreOf 39 = .ok (.iload_n 1, 1) := by decide +kernel
theorem dX12_moreOf_40 : decode cX12_moreOf 40 = .ok (.iadd, 1) := by decide +kernel
theorem dX12_moreOf_41 : decode cX12_moreOf 41 = .ok (.iaload, 1) := by decide +kernel
theorem dX12_moreOf_42 : decode cX12_moreOf 42 = .ok (.iadd, 1) := by decide +kernel
theorem dX12_moreOf_43 : decode cX12_moreOf 43 = .ok (.ireturn, 1) := by decide +kernel
set_option maxRecDepth 20000 in
set_option maxHeartbeats 4000000 in
theorem m_moreOf (E : xE) (l : Launch) (a : Nat → Nat) (cd : Cd) (hG : Good cd) (kf : Int32) (jn js jq : Lb) (ws : va_W) (hW : WX (okM E a cd kf jn js jq) ws) (i0 : Nat) (hi0 : i0 ≤ 7) : xI E l yX12_moreOf cX12_moreOf 2 (some .int) 0 [.ref (a 0), .int (nI i0)] ws (fun r w => w = ws) := by
  refine xI_start (lv := [(0, .ref (a 0)), (1, .int (nI i0))]) RX12 (by decide) rfl (Nat.le_of_ble_eq_true rfl) rfl (fun p e s m below meth c A C hr hlk => ?_)
  refine x_aload_n C dX12_moreOf_0 rfl 0 rfl rfl ?_
  obtain ⟨_, k1, n2, n4, n6, v8, v9, v10, n11, n13, n15, n17, v19, v20, v21, v22, n23, n25, bn3, bn5, bn7, bn12, bn14, bn16, bn18, bn24, bn26, rfl⟩ := hW 0 _ rfl
  refine x_get C (ci := 11) (k := 0) 0 k1 rfl in_X12 (by decide) w_1118 rfl dX12_moreOf_1 rfl ?_
  refine x_sipush C (v := 288) dX12_moreOf_4 (by decide) rfl ?_
  refine x_iload_n C dX12_moreOf_7 rfl 1 rfl rfl ?_
  refine x_iadd C (v := (nI (288 + i0))) dX12_moreOf_8 (nI_add 288 i0) rfl ?_
  obtain ⟨_, k27, f28, pf29, rfl⟩ := hW 1 _ rfl
  refine x_iald C (v := (f28 (nI (288 + i0)).toNatClampNeg)) 1 k27 (vp_in_nI (by omega) (by decide)) rfl dX12_moreOf_9 rfl ?_
  refine x_any (fun v30 => ?_)
  refine x_aload_n C dX12_moreOf_10 rfl 0 rfl rfl ?_
  refine x_get C (ci := 11) (k := 0) 0 k1 rfl in_X12 (by decide) w_1118 rfl dX12_moreOf_11 rfl ?_
  refine x_sipush C (v := 296) dX12_moreOf_14 (by decide) rfl ?_
  refine x_iload_n C dX12_moreOf_17 rfl 1 rfl rfl ?_
  refine x_iadd C (v := (nI (296 + i0))) dX12_moreOf_18 (nI_add 296 i0) rfl ?_
  refine x_iald C (v := (f28 (nI (296 + i0)).toNatClampNeg)) 1 k27 (vp_in_nI (by omega) (by decide)) rfl dX12_moreOf_19 rfl ?_
  refine x_any (fun v31 => ?_)
  refine x_isub C (v := (v30 - v31)) dX12_moreOf_20 rfl rfl ?_
  refine x_any (fun v32 => ?_)
  refine x_aload_n C dX12_moreOf_21 rfl 0 rfl rfl ?_
  refine x_get C (ci := 11) (k := 0) 0 k1 rfl in_X12 (by decide) w_1118 rfl dX12_moreOf_22 rfl ?_
  refine x_sipush C (v := 304) dX12_moreOf_25 (by decide) rfl ?_
  refine x_iload_n C dX12_moreOf_28 rfl 1 rfl rfl ?_
  refine x_iadd C (v := (nI (304 + i0))) dX12_moreOf_29 (nI_add 304 i0) rfl ?_
  refine x_iald C (v := (f28 (nI (304 + i0)).toNatClampNeg)) 1 k27 (vp_in_nI (by omega) (by decide)) rfl dX12_moreOf_30 rfl ?_
  refine x_any (fun v33 => ?_)
  refine x_isub C (v := (v32 - v33)) dX12_moreOf_31 rfl rfl ?_
  refine x_any (fun v34 => ?_)
  refine x_aload_n C dX12_moreOf_32 rfl 0 rfl rfl ?_
  refine x_get C (ci := 11) (k := 0) 0 k1 rfl in_X12 (by decide) w_1118 rfl dX12_moreOf_33 rfl ?_
  refine x_sipush C (v := 312) dX12_moreOf_36 (by decide) rfl ?_
  refine x_iload_n C dX12_moreOf_39 rfl 1 rfl rfl ?_
  refine x_iadd C (v := (nI (312 + i0))) dX12_moreOf_40 (nI_add 312 i0) rfl ?_
  refine x_iald C (v := (f28 (nI (312 + i0)).toNatClampNeg)) 1 k27 (vp_in_nI (by omega) (by decide)) rfl dX12_moreOf_41 rfl ?_
  refine x_any (fun v35 => ?_)
  refine x_iadd C (v := (v34 + v35)) dX12_moreOf_42 rfl rfl ?_
  refine x_any (fun v36 => ?_)
  exact x_zret C hr hlk rfl dX12_moreOf_43 rfl
theorem dX12_seed_0 : decode cX12_seed 0 = .ok (.iload_n 1, 1) := by decide +kernel
theorem dX12_seed_1 : decode cX12_seed 1 = .ok (.iconst 0, 1) := by decide +kernel
theorem dX12_seed_2 : decode cX12_seed 2 = .ok (.ldc_w 402, 3) := by decide +kernel
theorem dX12_seed_5 : decode cX12_seed 5 = .ok (.invokestatic 109, 3) := by decide +kernel
theorem dX12_seed_8 : decode cX12_seed 8 = .ok (.ifCond .ne 5, 3) := by decide +kernel
theorem dX12_seed_11 : decode cX12_seed 11 = .ok (.iconst 0, 1) := by decide +kernel
theorem dX12_seed_12 : decode cX12_seed 12 = .ok (.ireturn, 1) := by decide +kernel
theorem dX12_seed_13 : decode cX12_seed 13 = .ok (.aload_n 0, 1) := by decide +kernel
theorem dX12_seed_14 : decode cX12_seed 14 = .ok (.getfield 7, 3) := by decide +kernel
theorem dX12_seed_17 : decode cX12_seed 17 = .ok (.sipush 380, 3) := by decide +kernel
theorem dX12_seed_20 : decode cX12_seed 20 = .ok (.iload_n 1, 1) := by decide +kernel
theorem dX12_seed_21 : decode cX12_seed 21 = .ok (.iastore, 1) := by decide +kernel
theorem dX12_seed_22 : decode cX12_seed 22 = .ok (.iconst 1, 1) := by decide +kernel
theorem dX12_seed_23 : decode cX12_seed 23 = .ok (.ireturn, 1) := by decide +kernel
set_option maxRecDepth 20000 in
set_option maxHeartbeats 4000000 in
theorem m_seed (E : xE) (l : Launch) (a : Nat → Nat) (cd : Cd) (hG : Good cd) (kf : Int32) (jn js jq : Lb) (ws : va_W) (hW : WX (okM E a cd kf jn js jq) ws) (p0 : Int32) : xI E l yX12_seed cX12_seed 2 (some .boolean) 8 [.ref (a 0), .int p0] ws (fun r w => WX (okM E a cd kf jn js jq) w ∧ zb r) := by
  refine xI_start (lv := [(0, .ref (a 0)), (1, .int p0)]) RX12 (by decide) rfl (Nat.le_of_ble_eq_true rfl) rfl (fun p e s m below meth c A C hr hlk => ?_)
  refine x_iload_n C dX12_seed_0 rfl 1 rfl rfl ?_
  refine x_iconst C (v := 0) dX12_seed_1 (by decide) rfl ?_
  refine x_ldcw C w_1669 dX12_seed_2 rfl ?_
  refine x_si C (As := [.int p0, .int 0, .int 65535]) (rest := []) (m_in E l a cd hG kf jn js jq ws hW p0 (0 : Int32) (65535 : Int32)) mf_X12_in w_1267 rfl rfl (Nat.le_of_ble_eq_true rfl) ⟨(Nat.le_of_ble_eq_true rfl), (Nat.le_of_ble_eq_true rfl)⟩ ⟨(Nat.le_of_ble_eq_true rfl), (Nat.le_of_ble_eq_true rfl)⟩ dX12_seed_5 rfl (fun r2 w3 h1 => ?_)
  obtain ⟨hW4, zb5, x6⟩ := h1
  refine x_ws hW4 ?_
  refine x_if_ne C (tgt := 13) dX12_seed_8 (by decide) rfl (fun c7 => ?_) (fun c7 => ?_)
  · skip
    obtain ⟨j8, hl9, hh10, ej11⟩ := w_nat (a := 0) (b := 65535) (by decide) (by decide) (x6 c7)
    subst ej11
    refine x_aload_n C dX12_seed_13 rfl 0 rfl rfl ?_
    obtain ⟨_, k12, n13, n15, n17, v19, v20, v21, n22, n24, n26, n28, v30, v31, v32, v33, n34, n36, bn14, bn16, bn18, bn23, bn25, bn27, bn29, bn35, bn37, rfl⟩ := hW 0 _ rfl
    refine x_get C (ci := 11) (k := 0) 0 k12 rfl in_X12 (by decide) w_1118 rfl dX12_seed_14 rfl ?_
    refine x_sipush C (v := 380) dX12_seed_17 (by decide) rfl ?_
    refine x_iload_n C dX12_seed_20 rfl 1 rfl rfl ?_
    obtain ⟨_, k38, f39, pf40, rfl⟩ := hW 1 _ rfl
    have pf41 : NB jn (upd f39 380 (nI j8)) := NB_free pf40 (by unfold bd; omega)
    obtain ⟨w42, hw43⟩ : ∃ w : va_W, w = List.set ws 1 (iA E (a 1) 382 (upd f39 380 (nI j8))) := ⟨_, rfl⟩
    refine x_iask C 380 (by decide) (by decide) (by decide) 1 k38 hw43.symm dX12_seed_21 rfl ?_
    have hW44 : WX (okM E a cd kf jn js jq) w42 := by rw [hw43]; exact hW.set (k := 1) rfl ⟨_, pf41, rfl⟩
    have k45 : w42[0]? = some (ob (a 0) 11 [.ref (a 1), .ref (a 2), .ref (a 3), .ref (a 4), .int (nI n13), .int (nI n15), .int (nI n17), .int v19, .int v20, .int v21, .int (nI n22), .int (nI n24), .int (nI n26), .int (nI (cd.2.2.2.2.2)), .ref (a 5), .ref (a 6), .ref (a 7), .ref (a 8), .ref (a 9), .ref (a 10), .ref (a 11), .ref (a 12), .ref (a 13), .ref (a 14), .ref (a 15), .ref (a 16), .ref (a 17), .int (nI n28), .ref (a 18), .ref (a 19), .ref (a 20), .ref (a 21), .int v30, .int v31, .int v32, .int v33, .int (nI n34), .int (nI n36), .ref (a 22), .ref (a 23), .ref (a 24), .ref (a 25), .ref (a 26), .ref (a 27), .ref (a 28), .ref (a 29), .ref (a 30), .int kf]) := by rw [hw43]; exact set_ne k12 (by decide)
    have k46 : w42[1]? = some (iA E (a 1) 382 (upd f39 380 (nI j8))) := by rw [hw43]; exact set_eq k38
    refine x_iconst C (v := 1) dX12_seed_22 (by decide) rfl ?_
    exact x_zret C hr hlk rfl dX12_seed_23 ⟨hW44, (Or.inr rfl)⟩
  · skip
    refine x_iconst C (v := 0) dX12_seed_11 (by decide) rfl ?_
    exact x_zret C hr hlk rfl dX12_seed_12 ⟨hW, (Or.inl rfl)⟩
theorem dX12_apart_0 : decode cX12_apart 0 = .ok (.iload_n 0, 1) := by decide +kernel
theorem dX12_apart_1 : decode cX12_apart 1 = .ok (.iload_n 1, 1) := by decide +kernel
theorem dX12_apart_2 : decode cX12_apart 2 = .ok (.if_icmp .ge 9, 3) := by decide +kernel
theorem dX12_apart_5 : decode cX12_apart 5 = .ok (.iload_n 1, 1) := by decide +kernel
theorem dX12_apart_6 : decode cX12_apart 6 = .ok (.iload_n 0, 1) := by decide +kernel
theorem dX12_apart_7 : decode cX12_apart 7 = .ok (.isub, 1) := by decide +kernel
theorem dX12_apart_8 : decode cX12_apart 8 = .ok (.goto 6, 3) := by decide +kernel
theorem dX12_apart_11 : decode cX12_apart 11 = .ok (.iload_n 0, 1) := by decide +kernel
theorem dX12_apart_12 : decode cX12_apart 12 = .ok (.iload_n 1, 1) := by decide +kernel
theorem dX12_apart_13 : decode cX12_apart 13 = .ok (.isub, 1) := by decide +kernel
theorem dX12_apart_14 : decode cX12_apart 14 = .ok (.ireturn, 1) := by decide +kernel
set_option maxRecDepth 20000 in
set_option maxHeartbeats 4000000 in
theorem m_apart (E : xE) (l : Launch) (a : Nat → Nat) (cd : Cd) (hG : Good cd) (kf : Int32) (jn js jq : Lb) (ws : va_W) (hW : WX (okM E a cd kf jn js jq) ws) (p0 : Int32) (p1 : Int32) : xI E l yX12_apart cX12_apart 2 (some .int) 0 [.int p0, .int p1] ws (fun r w => w = ws) := by
  refine xI_start (lv := [(0, .int p0), (1, .int p1)]) RX12 (by decide) rfl (Nat.le_of_ble_eq_true rfl) rfl (fun p e s m below meth c A C hr hlk => ?_)
  refine x_iload_n C dX12_apart_0 rfl 0 rfl rfl ?_
  refine x_iload_n C dX12_apart_1 rfl 1 rfl rfl ?_
  refine x_icmp_ge C (tgt := 11) dX12_apart_2 (by decide) rfl (fun c1 => ?_) (fun c1 => ?_)
  · skip
    refine x_iload_n C dX12_apart_11 rfl 0 rfl rfl ?_
    refine x_iload_n C dX12_apart_12 rfl 1 rfl rfl ?_
    refine x_isub C (v := (p0 - p1)) dX12_apart_13 rfl rfl ?_
    refine x_any (fun v2 => ?_)
    exact x_zret C hr hlk rfl dX12_apart_14 rfl
  · skip
    refine x_iload_n C dX12_apart_5 rfl 1 rfl rfl ?_
    refine x_iload_n C dX12_apart_6 rfl 0 rfl rfl ?_
    refine x_isub C (v := (p1 - p0)) dX12_apart_7 rfl rfl ?_
    refine x_any (fun v3 => ?_)
    refine x_goto C (tgt := 14) dX12_apart_8 (by decide) ?_
    exact x_zret C hr hlk rfl dX12_apart_14 rfl
theorem dX12_count_0 : decode cX12_count 0 = .ok (.iload_n 1, 1) := by decide +kernel
theorem dX12_count_1 : decode cX12_count 1 = .ok (.tableswitch 141 0 10 #[59, 68, 77, 83, 89, 95, 100, 105, 114, 123, 132], 59) := by decide +kernel
theorem dX12_count_60 : decode cX12_count 60 = .ok (.aload_n 0, 1) := by decide +kernel
theorem dX12_count_61 : decode cX12_count 61 = .ok (.getfield 7, 3) := by decide +kernel
theorem dX12_count_64 : decode cX12_count 64 = .ok (.sipush 379, 3) := by decide +kernel
theorem dX12_count_67 : decode cX12_count 67 = .ok (.iaload, 1) := by decide +kernel
theorem dX12_count_68 : decode cX12_count 68 = .ok (.ireturn, 1) := by decide +kernel
theorem dX12_count_69 : decode cX12_count 69 = .ok (.aload_n 0, 1) := by decide +kernel
theorem dX12_count_70 : decode cX12_count 70 = .ok (.getfield 7, 3) := by decide +kernel
theorem dX12_count_73 : decode cX12_count 73 = .ok (.sipush 381, 3) := by decide +kernel
theorem dX12_count_76 : decode cX12_count 76 = .ok (.iaload, 1) := by decide +kernel
theorem dX12_count_77 : decode cX12_count 77 = .ok (.ireturn, 1) := by decide +kernel
theorem dX12_count_78 : decode cX12_count 78 = .ok (.aload_n 0, 1) := by decide +kernel
theorem dX12_count_79 : decode cX12_count 79 = .ok (.iconst 0, 1) := by decide +kernel
theorem dX12_count_80 : decode cX12_count 80 = .ok (.invokevirtual 331, 3) := by decide +kernel
theorem dX12_count_83 : decode cX12_count 83 = .ok (.ireturn, 1) := by decide +kernel
theorem dX12_count_84 : decode cX12_count 84 = .ok (.aload_n 0, 1) := by decide +kernel
theorem dX12_count_85 : decode cX12_count 85 = .ok (.iconst 1, 1) := by decide +kernel
theorem dX12_count_86 : decode cX12_count 86 = .ok (.invokevirtual 331, 3) := by decide +kernel
theorem dX12_count_89 : decode cX12_count 89 = .ok (.ireturn, 1) := by decide +kernel
theorem dX12_count_90 : decode cX12_count 90 = .ok (.aload_n 0, 1) := by decide +kernel
theorem dX12_count_91 : decode cX12_count 91 = .ok (.iconst 2, 1) := by decide +kernel
theorem dX12_count_92 : decode cX12_count 92 = .ok (.invokevirtual 331, 3) := by decide +kernel
theorem dX12_count_95 : decode cX12_count 95 = .ok (.ireturn, 1) := by decide +kernel
theorem dX12_count_96 : decode cX12_count 96 = .ok (.aload_n 0, 1) := by decide +kernel
theorem dX12_count_97 : decode cX12_count 97 = .ok (.getfield 223, 3) := by decide +kernel
theorem dX12_count_100 : decode cX12_count 100 = .ok (.ireturn, 1) := by decide +kernel
theorem dX12_count_101 : decode cX12_count 101 = .ok (.aload_n 0, 1) := by decide +kernel
theorem dX12_count_102 : decode cX12_count 102 = .ok (.getfield 123, 3) := by decide +kernel
theorem dX12_count_105 : decode cX12_count 105 = .ok (.ireturn, 1) := by decide +kernel
theorem dX12_count_106 : decode cX12_count 106 = .ok (.aload_n 0, 1) := by decide +kernel
theorem dX12_count_107 : decode cX12_count 107 = .ok (.getfield 7, 3) := by decide +kernel
theorem dX12_count_110 : decode cX12_count 110 = .ok (.sipush 380, 3) := by decide +kernel
theorem dX12_count_113 : decode cX12_count 113 = .ok (.iaload, 1) := by decide +kernel
theorem dX12_count_114 : decode cX12_count 114 = .ok (.ireturn, 1) := by decide +kernel
theorem dX12_count_115 : decode cX12_count 115 = .ok (.aload_n 0, 1) := by decide +kernel
theorem dX12_count_116 : decode cX12_count 116 = .ok (.getfield 7, 3) := by decide +kernel
theorem dX12_count_119 : decode cX12_count 119 = .ok (.sipush 320, 3) := by decide +kernel
theorem dX12_count_122 : decode cX12_count 122 = .ok (.iaload, 1) := by decide +kernel
theorem dX12_count_123 : decode cX12_count 123 = .ok (.ireturn, 1) := by decide +kernel
theorem dX12_count_124 : decode cX12_count 124 = .ok (.aload_n 0, 1) := by decide +kernel
theorem dX12_count_125 : decode cX12_count 125 = .ok (.getfield 7, 3) := by decide +kernel
theorem dX12_count_128 : decode cX12_count 128 = .ok (.sipush 337, 3) := by decide +kernel
theorem dX12_count_131 : decode cX12_count 131 = .ok (.iaload, 1) := by decide +kernel
theorem dX12_count_132 : decode cX12_count 132 = .ok (.ireturn, 1) := by decide +kernel
theorem dX12_count_133 : decode cX12_count 133 = .ok (.aload_n 0, 1) := by decide +kernel
theorem dX12_count_134 : decode cX12_count 134 = .ok (.getfield 7, 3) := by decide +kernel
theorem dX12_count_137 : decode cX12_count 137 = .ok (.sipush 378, 3) := by decide +kernel
theorem dX12_count_140 : decode cX12_count 140 = .ok (.iaload, 1) := by decide +kernel
theorem dX12_count_141 : decode cX12_count 141 = .ok (.ireturn, 1) := by decide +kernel
theorem dX12_count_142 : decode cX12_count 142 = .ok (.iload_n 1, 1) := by decide +kernel
theorem dX12_count_143 : decode cX12_count 143 = .ok (.bipush 20, 2) := by decide +kernel
theorem dX12_count_145 : decode cX12_count 145 = .ok (.bipush 27, 2) := by decide +kernel
theorem dX12_count_147 : decode cX12_count 147 = .ok (.invokestatic 109, 3) := by decide +kernel
theorem dX12_count_150 : decode cX12_count 150 = .ok (.ifCond .eq 28, 3) := by decide +kernel
theorem dX12_count_153 : decode cX12_count 153 = .ok (.aload_n 0, 1) := by decide +kernel
theorem dX12_count_154 : decode cX12_count 154 = .ok (.iload_n 1, 1) := by decide +kernel
theorem dX12_count_155 : decode cX12_count 155 = .ok (.bipush 20, 2) := by decide +kernel
theorem dX12_count_157 : decode cX12_count 157 = .ok (.isub, 1) := by decide +kernel
theorem dX12_count_158 : decode cX12_count 158 = .ok (.invokevirtual 116, 3) := by decide +kernel
theorem dX12_count_161 : decode cX12_count 161 = .ok (.ifCond .eq 17, 3) := by decide +kernel
theorem dX12_count_164 : decode cX12_count 164 = .ok (.aload_n 0, 1) := by decide +kernel
theorem dX12_count_165 : decode cX12_count 165 = .ok (.getfield 7, 3) := by decide +kernel
theorem dX12_count_168 : decode cX12_count 168 = .ok (.sipush 321, 3) := by decide +kernel
theorem dX12_count_171 : decode cX12_count 171 = .ok (.iload_n 1, 1) := by decide +kernel
theorem dX12_count_172 : decode cX12_count 172 = .ok (.iadd, 1) := by decide +kernel
theorem dX12_count_173 : decode cX12_count 173 = .ok (.bipush 20, 2) := by decide +kernel
theorem dX12_count_175 : decode cX12_count 175 = .ok (.isub, 1) := by decide +kernel
theorem dX12_count_176 : decode cX12_count 176 = .ok (.iaload, 1) := by decide +kernel
theorem dX12_count_177 : decode cX12_count 177 = .ok (.ireturn, 1) := by decide +kernel
theorem dX12_count_178 : decode cX12_count 178 = .ok (.iload_n 1, 1) := by decide +kernel
theorem dX12_count_179 : decode cX12_count 179 = .ok (.bipush 30, 2) := by decide +kernel
theorem dX12_count_181 : decode cX12_count 181 = .ok (.bipush 37, 2) := by decide +kernel
theorem dX12_count_183 : decode cX12_count 183 = .ok (.invokestatic 109, 3) := by decide +kernel
theorem dX12_count_186 : decode cX12_count 186 = .ok (.ifCond .eq 30, 3) := by decide +kernel
theorem dX12_count_189 : decode cX12_count 189 = .ok (.aload_n 0, 1) := by decide +kernel
theorem dX12_count_190 : decode cX12_count 190 = .ok (.iload_n 1, 1) := by decide +kernel
theorem dX12_count_191 : decode cX12_count 191 = .ok (.bipush 30, 2) := by decide +kernel
theorem dX12_count_193 : decode cX12_count 193 = .ok (.isub, 1) := by decide +kernel
theorem dX12_count_194 : decode cX12_count 194 = .ok (.invokevirtual 116, 3) := by decide +kernel
theorem dX12_count_197 : decode cX12_count 197 = .ok (.ifCond .eq 19, 3) := by decide +kernel
theorem dX12_count_200 : decode cX12_count 200 = .ok (.aload_n 0, 1) := by decide +kernel
theorem dX12_count_201 : decode cX12_count 201 = .ok (.getfield 7, 3) := by decide +kernel
theorem dX12_count_204 : decode cX12_count 204 = .ok (.sipush 329, 3) := by decide +kernel
theorem dX12_count_207 : decode cX12_count 207 = .ok (.iload_n 1, 1) := by decide +kernel
theorem dX12_count_208 : decode cX12_count 208 = .ok (.iadd, 1) := by decide +kernel
theorem dX12_count_209 : decode cX12_count 209 = .ok (.bipush 30, 2) := by decide +kernel
theorem dX12_count_211 : decode cX12_count 211 = .ok (.isub, 1) := by decide +kernel
theorem dX12_count_212 : decode cX12_count 212 = .ok (.iaload, 1) := by decide +kernel
theorem dX12_count_213 : decode cX12_count 213 = .ok (.goto 4, 3) := by decide +kernel
theorem dX12_count_216 : decode cX12_count 216 = .ok (.iconst (-1), 1) := by decide +kernel
theorem dX12_count_217 : decode cX12_count 217 = .ok (.ireturn, 1) := by decide +kernel
set_option maxRecDepth 20000 in
set_option maxHeartbeats 4000000 in
theorem m_count (E : xE) (l : Launch) (a : Nat → Nat) (cd : Cd) (hG : Good cd) (kf : Int32) (jn js jq : Lb) (ws : va_W) (hW : WX (okM E a cd kf jn js jq) ws) (p0 : Int32) : xI E l yX12_count cX12_count 2 (some .int) 8 [.ref (a 0), .int p0] ws (fun r w => WX (okM E a cd kf jn js jq) w) := by
  refine xI_start (lv := [(0, .ref (a 0)), (1, .int p0)]) RX12 (by decide) rfl (Nat.le_of_ble_eq_true rfl) rfl (fun p e s m below meth c A C hr hlk => ?_)
  refine x_iload_n C dX12_count_0 rfl 1 rfl rfl ?_
  by_cases s1 : (p0).toInt < 0
  · refine x_tabOut C (tgt := 142) dX12_count_1 (Or.inl s1) (by decide) ?_
    refine x_iload_n C dX12_count_142 rfl 1 rfl rfl ?_
    refine x_bipush C (v := 20) dX12_count_143 (by decide) rfl ?_
    refine x_bipush C (v := 27) dX12_count_145 (by decide) rfl ?_
    refine x_si C (As := [.int p0, .int 20, .int 27]) (rest := []) (m_in E l a cd hG kf jn js jq ws hW p0 (20 : Int32) (27 : Int32)) mf_X12_in w_1267 rfl rfl (Nat.le_of_ble_eq_true rfl) ⟨(Nat.le_of_ble_eq_true rfl), (Nat.le_of_ble_eq_true rfl)⟩ ⟨(Nat.le_of_ble_eq_true rfl), (Nat.le_of_ble_eq_true rfl)⟩ dX12_count_147 rfl (fun r4 w5 h3 => ?_)
    obtain ⟨hW6, zb7, x8⟩ := h3
    refine x_ws hW6 ?_
    refine x_if_eq C (tgt := 178) dX12_count_150 (by decide) rfl (fun c9 => ?_) (fun c9 => ?_)
    · skip
      refine x_iload_n C dX12_count_178 rfl 1 rfl rfl ?_
      refine x_bipush C (v := 30) dX12_count_179 (by decide) rfl ?_
      refine x_bipush C (v := 37) dX12_count_181 (by decide) rfl ?_
      refine x_si C (As := [.int p0, .int 30, .int 37]) (rest := []) (m_in E l a cd hG kf jn js jq ws hW p0 (30 : Int32) (37 : Int32)) mf_X12_in w_1267 rfl rfl (Nat.le_of_ble_eq_true rfl) ⟨(Nat.le_of_ble_eq_true rfl), (Nat.le_of_ble_eq_true rfl)⟩ ⟨(Nat.le_of_ble_eq_true rfl), (Nat.le_of_ble_eq_true rfl)⟩ dX12_count_183 rfl (fun r11 w12 h10 => ?_)
      obtain ⟨hW13, zb14, x15⟩ := h10
      refine x_ws hW13 ?_
      refine x_if_eq C (tgt := 216) dX12_count_186 (by decide) rfl (fun c16 => ?_) (fun c16 => ?_)
      · skip
        refine x_iconst C (v := (-1)) dX12_count_216 (by decide) rfl ?_
        exact x_zret C hr hlk rfl dX12_count_217 hW
      · skip
        obtain ⟨j17, hl18, hh19, ej20⟩ := w_nat (a := 30) (b := 37) (by decide) (by decide) (x15 c16)
        subst ej20
        refine x_aload_n C dX12_count_189 rfl 0 rfl rfl ?_
        refine x_iload_n C dX12_count_190 rfl 1 rfl rfl ?_
        refine x_bipush C (v := 30) dX12_count_191 (by decide) rfl ?_
        refine x_isub C (v := (nI (j17 - 30))) dX12_count_193 (pk_sub (a := j17) (b := 30) (by omega)) rfl ?_
        obtain ⟨_, k21, n22, n24, n26, v28, v29, v30, n31, n33, n35, n37, v39, v40, v41, v42, n43, n45, bn23, bn25, bn27, bn32, bn34, bn36, bn38, bn44, bn46, rfl⟩ := hW 0 _ rfl
        refine x_vi C (As := [.int (nI (j17 - 30))]) (rest := []) (m_isHen E l a cd hG kf jn js jq ws hW ((nI (j17 - 30)))) mf_X12_isHen w_1285 0 k21 rfl rfl rfl (Nat.le_of_ble_eq_true rfl) ⟨(Nat.le_of_ble_eq_true rfl), (Nat.le_of_ble_eq_true rfl)⟩ ⟨(Nat.le_of_ble_eq_true rfl), (Nat.le_of_ble_eq_true rfl)⟩ dX12_count_194 rfl (fun r48 w49 h47 => ?_)
        obtain ⟨hW50, zb51, x52⟩ := h47
        refine x_ws hW50 ?_
        refine x_if_eq C (tgt := 216) dX12_count_197 (by decide) rfl (fun c53 => ?_) (fun c53 => ?_)
        · skip
          refine x_iconst C (v := (-1)) dX12_count_216 (by decide) rfl ?_
          exact x_zret C hr hlk rfl dX12_count_217 hW
        · skip
          have wi54 := wth_le (a := 0) (b := 7) (j := (j17 - 30)) (x52 c53) (by omega) (by decide) (by decide)
          refine x_aload_n C dX12_count_200 rfl 0 rfl rfl ?_
          refine x_get C (ci := 11) (k := 0) 0 k21 rfl in_X12 (by decide) w_1118 rfl dX12_count_201 rfl ?_
          refine x_sipush C (v := 329) dX12_count_204 (by decide) rfl ?_
          refine x_iload_n C dX12_count_207 rfl 1 rfl rfl ?_
          refine x_iadd C (v := (nI (329 + j17))) dX12_count_208 (nI_add 329 j17) rfl ?_
          refine x_bipush C (v := 30) dX12_count_209 (by decide) rfl ?_
          refine x_isub C (v := (nI ((329 + j17) - 30))) dX12_count_211 (pk_sub (a := (329 + j17)) (b := 30) (by omega)) rfl ?_
          obtain ⟨_, k55, f56, pf57, rfl⟩ := hW 1 _ rfl
          refine x_iald C (v := (f56 (nI ((329 + j17) - 30)).toNatClampNeg)) 1 k55 (vp_in_nI (by omega) (by decide)) rfl dX12_count_212 rfl ?_
          refine x_any (fun v58 => ?_)
          refine x_goto C (tgt := 217) dX12_count_213 (by decide) ?_
          exact x_zret C hr hlk rfl dX12_count_217 hW
    · skip
      obtain ⟨j59, hl60, hh61, ej62⟩ := w_nat (a := 20) (b := 27) (by decide) (by decide) (x8 c9)
      subst ej62
      refine x_aload_n C dX12_count_153 rfl 0 rfl rfl ?_
      refine x_iload_n C dX12_count_154 rfl 1 rfl rfl ?_
      refine x_bipush C (v := 20) dX12_count_155 (by decide) rfl ?_
      refine x_isub C (v := (nI (j59 - 20))) dX12_count_157 (pk_sub (a := j59) (b := 20) (by omega)) rfl ?_
      obtain ⟨_, k63, n64, n66, n68, v70, v71, v72, n73, n75, n77, n79, v81, v82, v83, v84, n85, n87, bn65, bn67, bn69, bn74, bn76, bn78, bn80, bn86, bn88, rfl⟩ := hW 0 _ rfl
      refine x_vi C (As := [.int (nI (j59 - 20))]) (rest := []) (m_isHen E l a cd hG kf jn js jq ws hW ((nI (j59 - 20)))) mf_X12_isHen w_1285 0 k63 rfl rfl rfl (Nat.le_of_ble_eq_true rfl) ⟨(Nat.le_of_ble_eq_true rfl), (Nat.le_of_ble_eq_true rfl)⟩ ⟨(Nat.le_of_ble_eq_true rfl), (Nat.le_of_ble_eq_true rfl)⟩ dX12_count_158 rfl (fun r90 w91 h89 => ?_)
      obtain ⟨hW92, zb93, x94⟩ := h89
      refine x_ws hW92 ?_
      refine x_if_eq C (tgt := 178) dX12_count_161 (by decide) rfl (fun c95 => ?_) (fun c95 => ?_)
      · skip
        refine x_iload_n C dX12_count_178 rfl 1 rfl rfl ?_
        refine x_bipush C (v := 30) dX12_count_179 (by decide) rfl ?_
        refine x_bipush C (v := 37) dX12_count_181 (by decide) rfl ?_
        refine x_si C (As := [.int (nI j59), .int 30, .int 37]) (rest := []) (m_in E l a cd hG kf jn js jq ws hW ((nI j59)) (30 : Int32) (37 : Int32)) mf_X12_in w_1267 rfl rfl (Nat.le_of_ble_eq_true rfl) ⟨(Nat.le_of_ble_eq_true rfl), (Nat.le_of_ble_eq_true rfl)⟩ ⟨(Nat.le_of_ble_eq_true rfl), (Nat.le_of_ble_eq_true rfl)⟩ dX12_count_183 rfl (fun r97 w98 h96 => ?_)
        obtain ⟨hW99, zb100, x101⟩ := h96
        refine x_ws hW99 ?_
        refine x_if_eq C (tgt := 216) dX12_count_186 (by decide) rfl (fun c102 => ?_) (fun c102 => ?_)
        · skip
          refine x_iconst C (v := (-1)) dX12_count_216 (by decide) rfl ?_
          exact x_zret C hr hlk rfl dX12_count_217 hW
        · skip
          have wi103 := wth_le (a := 30) (b := 37) (j := j59) (x101 c102) (by omega) (by decide) (by decide)
          refine x_aload_n C dX12_count_189 rfl 0 rfl rfl ?_
          refine x_iload_n C dX12_count_190 rfl 1 rfl rfl ?_
          refine x_bipush C (v := 30) dX12_count_191 (by decide) rfl ?_
          refine x_isub C (v := (nI (j59 - 30))) dX12_count_193 (pk_sub (a := j59) (b := 30) (by omega)) rfl ?_
          refine x_vi C (As := [.int (nI (j59 - 30))]) (rest := []) (m_isHen E l a cd hG kf jn js jq ws hW ((nI (j59 - 30)))) mf_X12_isHen w_1285 0 k63 rfl rfl rfl (Nat.le_of_ble_eq_true rfl) ⟨(Nat.le_of_ble_eq_true rfl), (Nat.le_of_ble_eq_true rfl)⟩ ⟨(Nat.le_of_ble_eq_true rfl), (Nat.le_of_ble_eq_true rfl)⟩ dX12_count_194 rfl (fun r105 w106 h104 => ?_)
          obtain ⟨hW107, zb108, x109⟩ := h104
          refine x_ws hW107 ?_
          refine x_if_eq C (tgt := 216) dX12_count_197 (by decide) rfl (fun c110 => ?_) (fun c110 => ?_)
          · skip
            refine x_iconst C (v := (-1)) dX12_count_216 (by decide) rfl ?_
            exact x_zret C hr hlk rfl dX12_count_217 hW
          · skip
            have wi111 := wth_le (a := 0) (b := 7) (j := (j59 - 30)) (x109 c110) (by omega) (by decide) (by decide)
            refine x_aload_n C dX12_count_200 rfl 0 rfl rfl ?_
            refine x_get C (ci := 11) (k := 0) 0 k63 rfl in_X12 (by decide) w_1118 rfl dX12_count_201 rfl ?_
            refine x_sipush C (v := 329) dX12_count_204 (by decide) rfl ?_
            refine x_iload_n C dX12_count_207 rfl 1 rfl rfl ?_
            refine x_iadd C (v := (nI (329 + j59))) dX12_count_208 (nI_add 329 j59) rfl ?_
            refine x_bipush C (v := 30) dX12_count_209 (by decide) rfl ?_
            refine x_isub C (v := (nI ((329 + j59) - 30))) dX12_count_211 (pk_sub (a := (329 + j59)) (b := 30) (by omega)) rfl ?_
            obtain ⟨_, k112, f113, pf114, rfl⟩ := hW 1 _ rfl
            refine x_iald C (v := (f113 (nI ((329 + j59) - 30)).toNatClampNeg)) 1 k112 (vp_in_nI (by omega) (by decide)) rfl dX12_count_212 rfl ?_
            refine x_any (fun v115 => ?_)
            refine x_goto C (tgt := 217) dX12_count_213 (by decide) ?_
            exact x_zret C hr hlk rfl dX12_count_217 hW
      · skip
        have wi116 := wth_le (a := 0) (b := 7) (j := (j59 - 20)) (x94 c95) (by omega) (by decide) (by decide)
        refine x_aload_n C dX12_count_164 rfl 0 rfl rfl ?_
        refine x_get C (ci := 11) (k := 0) 0 k63 rfl in_X12 (by decide) w_1118 rfl dX12_count_165 rfl ?_
        refine x_sipush C (v := 321) dX12_count_168 (by decide) rfl ?_
        refine x_iload_n C dX12_count_171 rfl 1 rfl rfl ?_
        refine x_iadd C (v := (nI (321 + j59))) dX12_count_172 (nI_add 321 j59) rfl ?_
        refine x_bipush C (v := 20) dX12_count_173 (by decide) rfl ?_
        refine x_isub C (v := (nI ((321 + j59) - 20))) dX12_count_175 (pk_sub (a := (321 + j59)) (b := 20) (by omega)) rfl ?_
        obtain ⟨_, k117, f118, pf119, rfl⟩ := hW 1 _ rfl
        refine x_iald C (v := (f118 (nI ((321 + j59) - 20)).toNatClampNeg)) 1 k117 (vp_in_nI (by omega) (by decide)) rfl dX12_count_176 rfl ?_
        refine x_any (fun v120 => ?_)
        exact x_zret C hr hlk rfl dX12_count_177 hW
  by_cases s2 : 10 < (p0).toInt
  · refine x_tabOut C (tgt := 142) dX12_count_1 (Or.inr s2) (by decide) ?_
    refine x_iload_n C dX12_count_142 rfl 1 rfl rfl ?_
    refine x_bipush C (v := 20) dX12_count_143 (by decide) rfl ?_
    refine x_bipush C (v := 27) dX12_count_145 (by decide) rfl ?_
    refine x_si C (As := [.int p0, .int 20, .int 27]) (rest := []) (m_in E l a cd hG kf jn js jq ws hW p0 (20 : Int32) (27 : Int32)) mf_X12_in w_1267 rfl rfl (Nat.le_of_ble_eq_true rfl) ⟨(Nat.le_of_ble_eq_true rfl), (Nat.le_of_ble_eq_true rfl)⟩ ⟨(Nat.le_of_ble_eq_true rfl), (Nat.le_of_ble_eq_true rfl)⟩ dX12_count_147 rfl (fun r122 w123 h121 => ?_)
    obtain ⟨hW124, zb125, x126⟩ := h121
    refine x_ws hW124 ?_
    refine x_if_eq C (tgt := 178) dX12_count_150 (by decide) rfl (fun c127 => ?_) (fun c127 => ?_)
    · skip
      refine x_iload_n C dX12_count_178 rfl 1 rfl rfl ?_
      refine x_bipush C (v := 30) dX12_count_179 (by decide) rfl ?_
      refine x_bipush C (v := 37) dX12_count_181 (by decide) rfl ?_
      refine x_si C (As := [.int p0, .int 30, .int 37]) (rest := []) (m_in E l a cd hG kf jn js jq ws hW p0 (30 : Int32) (37 : Int32)) mf_X12_in w_1267 rfl rfl (Nat.le_of_ble_eq_true rfl) ⟨(Nat.le_of_ble_eq_true rfl), (Nat.le_of_ble_eq_true rfl)⟩ ⟨(Nat.le_of_ble_eq_true rfl), (Nat.le_of_ble_eq_true rfl)⟩ dX12_count_183 rfl (fun r129 w130 h128 => ?_)
      obtain ⟨hW131, zb132, x133⟩ := h128
      refine x_ws hW131 ?_
      refine x_if_eq C (tgt := 216) dX12_count_186 (by decide) rfl (fun c134 => ?_) (fun c134 => ?_)
      · skip
        refine x_iconst C (v := (-1)) dX12_count_216 (by decide) rfl ?_
        exact x_zret C hr hlk rfl dX12_count_217 hW
      · skip
        obtain ⟨j135, hl136, hh137, ej138⟩ := w_nat (a := 30) (b := 37) (by decide) (by decide) (x133 c134)
        subst ej138
        refine x_aload_n C dX12_count_189 rfl 0 rfl rfl ?_
        refine x_iload_n C dX12_count_190 rfl 1 rfl rfl ?_
        refine x_bipush C (v := 30) dX12_count_191 (by decide) rfl ?_
        refine x_isub C (v := (nI (j135 - 30))) dX12_count_193 (pk_sub (a := j135) (b := 30) (by omega)) rfl ?_
        obtain ⟨_, k139, n140, n142, n144, v146, v147, v148, n149, n151, n153, n155, v157, v158, v159, v160, n161, n163, bn141, bn143, bn145, bn150, bn152, bn154, bn156, bn162, bn164, rfl⟩ := hW 0 _ rfl
        refine x_vi C (As := [.int (nI (j135 - 30))]) (rest := []) (m_isHen E l a cd hG kf jn js jq ws hW ((nI (j135 - 30)))) mf_X12_isHen w_1285 0 k139 rfl rfl rfl (Nat.le_of_ble_eq_true rfl) ⟨(Nat.le_of_ble_eq_true rfl), (Nat.le_of_ble_eq_true rfl)⟩ ⟨(Nat.le_of_ble_eq_true rfl), (Nat.le_of_ble_eq_true rfl)⟩ dX12_count_194 rfl (fun r166 w167 h165 => ?_)
        obtain ⟨hW168, zb169, x170⟩ := h165
        refine x_ws hW168 ?_
        refine x_if_eq C (tgt := 216) dX12_count_197 (by decide) rfl (fun c171 => ?_) (fun c171 => ?_)
        · skip
          refine x_iconst C (v := (-1)) dX12_count_216 (by decide) rfl ?_
          exact x_zret C hr hlk rfl dX12_count_217 hW
        · skip
          have wi172 := wth_le (a := 0) (b := 7) (j := (j135 - 30)) (x170 c171) (by omega) (by decide) (by decide)
          refine x_aload_n C dX12_count_200 rfl 0 rfl rfl ?_
          refine x_get C (ci := 11) (k := 0) 0 k139 rfl in_X12 (by decide) w_1118 rfl dX12_count_201 rfl ?_
          refine x_sipush C (v := 329) dX12_count_204 (by decide) rfl ?_
          refine x_iload_n C dX12_count_207 rfl 1 rfl rfl ?_
          refine x_iadd C (v := (nI (329 + j135))) dX12_count_208 (nI_add 329 j135) rfl ?_
          refine x_bipush C (v := 30) dX12_count_209 (by decide) rfl ?_
          refine x_isub C (v := (nI ((329 + j135) - 30))) dX12_count_211 (pk_sub (a := (329 + j135)) (b := 30) (by omega)) rfl ?_
          obtain ⟨_, k173, f174, pf175, rfl⟩ := hW 1 _ rfl
          refine x_iald C (v := (f174 (nI ((329 + j135) - 30)).toNatClampNeg)) 1 k173 (vp_in_nI (by omega) (by decide)) rfl dX12_count_212 rfl ?_
          refine x_any (fun v176 => ?_)
          refine x_goto C (tgt := 217) dX12_count_213 (by decide) ?_
          exact x_zret C hr hlk rfl dX12_count_217 hW
    · skip
      obtain ⟨j177, hl178, hh179, ej180⟩ := w_nat (a := 20) (b := 27) (by decide) (by decide) (x126 c127)
      subst ej180
      refine x_aload_n C dX12_count_153 rfl 0 rfl rfl ?_
      refine x_iload_n C dX12_count_154 rfl 1 rfl rfl ?_
      refine x_bipush C (v := 20) dX12_count_155 (by decide) rfl ?_
      refine x_isub C (v := (nI (j177 - 20))) dX12_count_157 (pk_sub (a := j177) (b := 20) (by omega)) rfl ?_
      obtain ⟨_, k181, n182, n184, n186, v188, v189, v190, n191, n193, n195, n197, v199, v200, v201, v202, n203, n205, bn183, bn185, bn187, bn192, bn194, bn196, bn198, bn204, bn206, rfl⟩ := hW 0 _ rfl
      refine x_vi C (As := [.int (nI (j177 - 20))]) (rest := []) (m_isHen E l a cd hG kf jn js jq ws hW ((nI (j177 - 20)))) mf_X12_isHen w_1285 0 k181 rfl rfl rfl (Nat.le_of_ble_eq_true rfl) ⟨(Nat.le_of_ble_eq_true rfl), (Nat.le_of_ble_eq_true rfl)⟩ ⟨(Nat.le_of_ble_eq_true rfl), (Nat.le_of_ble_eq_true rfl)⟩ dX12_count_158 rfl (fun r208 w209 h207 => ?_)
      obtain ⟨hW210, zb211, x212⟩ := h207
      refine x_ws hW210 ?_
      refine x_if_eq C (tgt := 178) dX12_count_161 (by decide) rfl (fun c213 => ?_) (fun c213 => ?_)
      · skip
        refine x_iload_n C dX12_count_178 rfl 1 rfl rfl ?_
        refine x_bipush C (v := 30) dX12_count_179 (by decide) rfl ?_
        refine x_bipush C (v := 37) dX12_count_181 (by decide) rfl ?_
        refine x_si C (As := [.int (nI j177), .int 30, .int 37]) (rest := []) (m_in E l a cd hG kf jn js jq ws hW ((nI j177)) (30 : Int32) (37 : Int32)) mf_X12_in w_1267 rfl rfl (Nat.le_of_ble_eq_true rfl) ⟨(Nat.le_of_ble_eq_true rfl), (Nat.le_of_ble_eq_true rfl)⟩ ⟨(Nat.le_of_ble_eq_true rfl), (Nat.le_of_ble_eq_true rfl)⟩ dX12_count_183 rfl (fun r215 w216 h214 => ?_)
        obtain ⟨hW217, zb218, x219⟩ := h214
        refine x_ws hW217 ?_
        refine x_if_eq C (tgt := 216) dX12_count_186 (by decide) rfl (fun c220 => ?_) (fun c220 => ?_)
        · skip
          refine x_iconst C (v := (-1)) dX12_count_216 (by decide) rfl ?_
          exact x_zret C hr hlk rfl dX12_count_217 hW
        · skip
          have wi221 := wth_le (a := 30) (b := 37) (j := j177) (x219 c220) (by omega) (by decide) (by decide)
          refine x_aload_n C dX12_count_189 rfl 0 rfl rfl ?_
          refine x_iload_n C dX12_count_190 rfl 1 rfl rfl ?_
          refine x_bipush C (v := 30) dX12_count_191 (by decide) rfl ?_
          refine x_isub C (v := (nI (j177 - 30))) dX12_count_193 (pk_sub (a := j177) (b := 30) (by omega)) rfl ?_
          refine x_vi C (As := [.int (nI (j177 - 30))]) (rest := []) (m_isHen E l a cd hG kf jn js jq ws hW ((nI (j177 - 30)))) mf_X12_isHen w_1285 0 k181 rfl rfl rfl (Nat.le_of_ble_eq_true rfl) ⟨(Nat.le_of_ble_eq_true rfl), (Nat.le_of_ble_eq_true rfl)⟩ ⟨(Nat.le_of_ble_eq_true rfl), (Nat.le_of_ble_eq_true rfl)⟩ dX12_count_194 rfl (fun r223 w224 h222 => ?_)
          obtain ⟨hW225, zb226, x227⟩ := h222
          refine x_ws hW225 ?_
          refine x_if_eq C (tgt := 216) dX12_count_197 (by decide) rfl (fun c228 => ?_) (fun c228 => ?_)
          · skip
            refine x_iconst C (v := (-1)) dX12_count_216 (by decide) rfl ?_
            exact x_zret C hr hlk rfl dX12_count_217 hW
          · skip
            have wi229 := wth_le (a := 0) (b := 7) (j := (j177 - 30)) (x227 c228) (by omega) (by decide) (by decide)
            refine x_aload_n C dX12_count_200 rfl 0 rfl rfl ?_
            refine x_get C (ci := 11) (k := 0) 0 k181 rfl in_X12 (by decide) w_1118 rfl dX12_count_201 rfl ?_
            refine x_sipush C (v := 329) dX12_count_204 (by decide) rfl ?_
            refine x_iload_n C dX12_count_207 rfl 1 rfl rfl ?_
            refine x_iadd C (v := (nI (329 + j177))) dX12_count_208 (nI_add 329 j177) rfl ?_
            refine x_bipush C (v := 30) dX12_count_209 (by decide) rfl ?_
            refine x_isub C (v := (nI ((329 + j177) - 30))) dX12_count_211 (pk_sub (a := (329 + j177)) (b := 30) (by omega)) rfl ?_
            obtain ⟨_, k230, f231, pf232, rfl⟩ := hW 1 _ rfl
            refine x_iald C (v := (f231 (nI ((329 + j177) - 30)).toNatClampNeg)) 1 k230 (vp_in_nI (by omega) (by decide)) rfl dX12_count_212 rfl ?_
            refine x_any (fun v233 => ?_)
            refine x_goto C (tgt := 217) dX12_count_213 (by decide) ?_
            exact x_zret C hr hlk rfl dX12_count_217 hW
      · skip
        have wi234 := wth_le (a := 0) (b := 7) (j := (j177 - 20)) (x212 c213) (by omega) (by decide) (by decide)
        refine x_aload_n C dX12_count_164 rfl 0 rfl rfl ?_
        refine x_get C (ci := 11) (k := 0) 0 k181 rfl in_X12 (by decide) w_1118 rfl dX12_count_165 rfl ?_
        refine x_sipush C (v := 321) dX12_count_168 (by decide) rfl ?_
        refine x_iload_n C dX12_count_171 rfl 1 rfl rfl ?_
        refine x_iadd C (v := (nI (321 + j177))) dX12_count_172 (nI_add 321 j177) rfl ?_
        refine x_bipush C (v := 20) dX12_count_173 (by decide) rfl ?_
        refine x_isub C (v := (nI ((321 + j177) - 20))) dX12_count_175 (pk_sub (a := (321 + j177)) (b := 20) (by omega)) rfl ?_
        obtain ⟨_, k235, f236, pf237, rfl⟩ := hW 1 _ rfl
        refine x_iald C (v := (f236 (nI ((321 + j177) - 20)).toNatClampNeg)) 1 k235 (vp_in_nI (by omega) (by decide)) rfl dX12_count_176 rfl ?_
        refine x_any (fun v238 => ?_)
        exact x_zret C hr hlk rfl dX12_count_177 hW
  by_cases s239 : p0 = 0
  · refine x_tabIn C (tgt := 60) dX12_count_1 (by rw [s239]; decide) (by rw [s239]; decide) (by rw [s239]; rfl) (by decide) ?_
    refine x_aload_n C dX12_count_60 rfl 0 rfl rfl ?_
    obtain ⟨_, k240, n241, n243, n245, v247, v248, v249, n250, n252, n254, n256, v258, v259, v260, v261, n262, n264, bn242, bn244, bn246, bn251, bn253, bn255, bn257, bn263, bn265, rfl⟩ := hW 0 _ rfl
    refine x_get C (ci := 11) (k := 0) 0 k240 rfl in_X12 (by decide) w_1118 rfl dX12_count_61 rfl ?_
    refine x_sipush C (v := 379) dX12_count_64 (by decide) rfl ?_
    obtain ⟨_, k266, f267, pf268, rfl⟩ := hW 1 _ rfl
    obtain ⟨n269, hn270, en271⟩ := NB_day pf268
    refine x_ialk C (v := nI n269) 379 (by decide) (by decide) (by decide) 1 k266 en271 dX12_count_67 rfl ?_
    exact x_zret C hr hlk rfl dX12_count_68 hW
  have zs239 := sw_ne (by decide : (0 : Int32).toInt = 0) s239
  by_cases s272 : p0 = 1
  · refine x_tabIn C (tgt := 69) dX12_count_1 (by rw [s272]; decide) (by rw [s272]; decide) (by rw [s272]; rfl) (by decide) ?_
    refine x_aload_n C dX12_count_69 rfl 0 rfl rfl ?_
    obtain ⟨_, k273, n274, n276, n278, v280, v281, v282, n283, n285, n287, n289, v291, v292, v293, v294, n295, n297, bn275, bn277, bn279, bn284, bn286, bn288, bn290, bn296, bn298, rfl⟩ := hW 0 _ rfl
    refine x_get C (ci := 11) (k := 0) 0 k273 rfl in_X12 (by decide) w_1118 rfl dX12_count_70 rfl ?_
    refine x_sipush C (v := 381) dX12_count_73 (by decide) rfl ?_
    obtain ⟨_, k299, f300, pf301, rfl⟩ := hW 1 _ rfl
    obtain ⟨n302, hn303, en304⟩ := NB_many pf301
    refine x_ialk C (v := nI n302) 381 (by decide) (by decide) (by decide) 1 k299 en304 dX12_count_76 rfl ?_
    exact x_zret C hr hlk rfl dX12_count_77 hW
  have zs272 := sw_ne (by decide : (1 : Int32).toInt = 1) s272
  by_cases s305 : p0 = 2
  · refine x_tabIn C (tgt := 78) dX12_count_1 (by rw [s305]; decide) (by rw [s305]; decide) (by rw [s305]; rfl) (by decide) ?_
    refine x_aload_n C dX12_count_78 rfl 0 rfl rfl ?_
    refine x_iconst C (v := 0) dX12_count_79 (by decide) rfl ?_
    obtain ⟨_, k306, n307, n309, n311, v313, v314, v315, n316, n318, n320, n322, v324, v325, v326, v327, n328, n330, bn308, bn310, bn312, bn317, bn319, bn321, bn323, bn329, bn331, rfl⟩ := hW 0 _ rfl
    refine x_vi C (As := [.int 0]) (rest := []) (m_howMany E l a cd hG kf jn js jq ws hW (0 : Int32)) mf_X12_howMany w_1526 0 k306 rfl rfl rfl (Nat.le_of_ble_eq_true rfl) ⟨(Nat.le_of_ble_eq_true rfl), (Nat.le_of_ble_eq_true rfl)⟩ ⟨(Nat.le_of_ble_eq_true rfl), (Nat.le_of_ble_eq_true rfl)⟩ dX12_count_80 rfl (fun r333 w334 h332 => ?_)
    have hW335 := h332
    refine x_ws hW335 ?_
    exact x_zret C hr hlk rfl dX12_count_83 hW
  have zs305 := sw_ne (by decide : (2 : Int32).toInt = 2) s305
  by_cases s336 : p0 = 3
  · refine x_tabIn C (tgt := 84) dX12_count_1 (by rw [s336]; decide) (by rw [s336]; decide) (by rw [s336]; rfl) (by decide) ?_
    refine x_aload_n C dX12_count_84 rfl 0 rfl rfl ?_
    refine x_iconst C (v := 1) dX12_count_85 (by decide) rfl ?_
    obtain ⟨_, k337, n338, n340, n342, v344, v345, v346, n347, n349, n351, n353, v355, v356, v357, v358, n359, n361, bn339, bn341, bn343, bn348, bn350, bn352, bn354, bn360, bn362, rfl⟩ := hW 0 _ rfl
    refine x_vi C (As := [.int 1]) (rest := []) (m_howMany E l a cd hG kf jn js jq ws hW (1 : Int32)) mf_X12_howMany w_1526 0 k337 rfl rfl rfl (Nat.le_of_ble_eq_true rfl) ⟨(Nat.le_of_ble_eq_true rfl), (Nat.le_of_ble_eq_true rfl)⟩ ⟨(Nat.le_of_ble_eq_true rfl), (Nat.le_of_ble_eq_true rfl)⟩ dX12_count_86 rfl (fun r364 w365 h363 => ?_)
    have hW366 := h363
    refine x_ws hW366 ?_
    exact x_zret C hr hlk rfl dX12_count_89 hW
  have zs336 := sw_ne (by decide : (3 : Int32).toInt = 3) s336
  by_cases s367 : p0 = 4
  · refine x_tabIn C (tgt := 90) dX12_count_1 (by rw [s367]; decide) (by rw [s367]; decide) (by rw [s367]; rfl) (by decide) ?_
    refine x_aload_n C dX12_count_90 rfl 0 rfl rfl ?_
    refine x_iconst C (v := 2) dX12_count_91 (by decide) rfl ?_
    obtain ⟨_, k368, n369, n371, n373, v375, v376, v377, n378, n380, n382, n384, v386, v387, v388, v389, n390, n392, bn370, bn372, bn374, bn379, bn381, bn383, bn385, bn391, bn393, rfl⟩ := hW 0 _ rfl
    refine x_vi C (As := [.int 2]) (rest := []) (m_howMany E l a cd hG kf jn js jq ws hW (2 : Int32)) mf_X12_howMany w_1526 0 k368 rfl rfl rfl (Nat.le_of_ble_eq_true rfl) ⟨(Nat.le_of_ble_eq_true rfl), (Nat.le_of_ble_eq_true rfl)⟩ ⟨(Nat.le_of_ble_eq_true rfl), (Nat.le_of_ble_eq_true rfl)⟩ dX12_count_92 rfl (fun r395 w396 h394 => ?_)
    have hW397 := h394
    refine x_ws hW397 ?_
    exact x_zret C hr hlk rfl dX12_count_95 hW
  have zs367 := sw_ne (by decide : (4 : Int32).toInt = 4) s367
  by_cases s398 : p0 = 5
  · refine x_tabIn C (tgt := 96) dX12_count_1 (by rw [s398]; decide) (by rw [s398]; decide) (by rw [s398]; rfl) (by decide) ?_
    refine x_aload_n C dX12_count_96 rfl 0 rfl rfl ?_
    obtain ⟨_, k399, n400, n402, n404, v406, v407, v408, n409, n411, n413, n415, v417, v418, v419, v420, n421, n423, bn401, bn403, bn405, bn410, bn412, bn414, bn416, bn422, bn424, rfl⟩ := hW 0 _ rfl
    refine x_get C (ci := 11) (k := 13) 0 k399 rfl in_X12 (by decide) w_1131 rfl dX12_count_97 rfl ?_
    exact x_zret C hr hlk rfl dX12_count_100 hW
  have zs398 := sw_ne (by decide : (5 : Int32).toInt = 5) s398
  by_cases s425 : p0 = 6
  · refine x_tabIn C (tgt := 101) dX12_count_1 (by rw [s425]; decide) (by rw [s425]; decide) (by rw [s425]; rfl) (by decide) ?_
    refine x_aload_n C dX12_count_101 rfl 0 rfl rfl ?_
    obtain ⟨_, k426, n427, n429, n431, v433, v434, v435, n436, n438, n440, n442, v444, v445, v446, v447, n448, n450, bn428, bn430, bn432, bn437, bn439, bn441, bn443, bn449, bn451, rfl⟩ := hW 0 _ rfl
    refine x_get C (ci := 11) (k := 4) 0 k426 rfl in_X12 (by decide) w_1122 rfl dX12_count_102 rfl ?_
    exact x_zret C hr hlk rfl dX12_count_105 hW
  have zs425 := sw_ne (by decide : (6 : Int32).toInt = 6) s425
  by_cases s452 : p0 = 7
  · refine x_tabIn C (tgt := 106) dX12_count_1 (by rw [s452]; decide) (by rw [s452]; decide) (by rw [s452]; rfl) (by decide) ?_
    refine x_aload_n C dX12_count_106 rfl 0 rfl rfl ?_
    obtain ⟨_, k453, n454, n456, n458, v460, v461, v462, n463, n465, n467, n469, v471, v472, v473, v474, n475, n477, bn455, bn457, bn459, bn464, bn466, bn468, bn470, bn476, bn478, rfl⟩ := hW 0 _ rfl
    refine x_get C (ci := 11) (k := 0) 0 k453 rfl in_X12 (by decide) w_1118 rfl dX12_count_107 rfl ?_
    refine x_sipush C (v := 380) dX12_count_110 (by decide) rfl ?_
    obtain ⟨_, k479, f480, pf481, rfl⟩ := hW 1 _ rfl
    refine x_iald C (v := (f480 (380 : Int32).toNatClampNeg)) 1 k479 (vp_k (j := 380) (by decide) (by decide) (by decide)) rfl dX12_count_113 rfl ?_
    refine x_any (fun v482 => ?_)
    exact x_zret C hr hlk rfl dX12_count_114 hW
  have zs452 := sw_ne (by decide : (7 : Int32).toInt = 7) s452
  by_cases s483 : p0 = 8
  · refine x_tabIn C (tgt := 115) dX12_count_1 (by rw [s483]; decide) (by rw [s483]; decide) (by rw [s483]; rfl) (by decide) ?_
    refine x_aload_n C dX12_count_115 rfl 0 rfl rfl ?_
    obtain ⟨_, k484, n485, n487, n489, v491, v492, v493, n494, n496, n498, n500, v502, v503, v504, v505, n506, n508, bn486, bn488, bn490, bn495, bn497, bn499, bn501, bn507, bn509, rfl⟩ := hW 0 _ rfl
    refine x_get C (ci := 11) (k := 0) 0 k484 rfl in_X12 (by decide) w_1118 rfl dX12_count_116 rfl ?_
    refine x_sipush C (v := 320) dX12_count_119 (by decide) rfl ?_
    obtain ⟨_, k510, f511, pf512, rfl⟩ := hW 1 _ rfl
    refine x_iald C (v := (f511 (320 : Int32).toNatClampNeg)) 1 k510 (vp_k (j := 320) (by decide) (by decide) (by decide)) rfl dX12_count_122 rfl ?_
    refine x_any (fun v513 => ?_)
    exact x_zret C hr hlk rfl dX12_count_123 hW
  have zs483 := sw_ne (by decide : (8 : Int32).toInt = 8) s483
  by_cases s514 : p0 = 9
  · refine x_tabIn C (tgt := 124) dX12_count_1 (by rw [s514]; decide) (by rw [s514]; decide) (by rw [s514]; rfl) (by decide) ?_
    refine x_aload_n C dX12_count_124 rfl 0 rfl rfl ?_
    obtain ⟨_, k515, n516, n518, n520, v522, v523, v524, n525, n527, n529, n531, v533, v534, v535, v536, n537, n539, bn517, bn519, bn521, bn526, bn528, bn530, bn532, bn538, bn540, rfl⟩ := hW 0 _ rfl
    refine x_get C (ci := 11) (k := 0) 0 k515 rfl in_X12 (by decide) w_1118 rfl dX12_count_125 rfl ?_
    refine x_sipush C (v := 337) dX12_count_128 (by decide) rfl ?_
    obtain ⟨_, k541, f542, pf543, rfl⟩ := hW 1 _ rfl
    refine x_iald C (v := (f542 (337 : Int32).toNatClampNeg)) 1 k541 (vp_k (j := 337) (by decide) (by decide) (by decide)) rfl dX12_count_131 rfl ?_
    refine x_any (fun v544 => ?_)
    exact x_zret C hr hlk rfl dX12_count_132 hW
  have zs514 := sw_ne (by decide : (9 : Int32).toInt = 9) s514
  have s545 : p0 = 10 := sw_last (n := 10) (by decide) s1 s2 (by omega)
  refine x_tabIn C (tgt := 133) dX12_count_1 (by rw [s545]; decide) (by rw [s545]; decide) (by rw [s545]; rfl) (by decide) ?_
  refine x_aload_n C dX12_count_133 rfl 0 rfl rfl ?_
  obtain ⟨_, k546, n547, n549, n551, v553, v554, v555, n556, n558, n560, n562, v564, v565, v566, v567, n568, n570, bn548, bn550, bn552, bn557, bn559, bn561, bn563, bn569, bn571, rfl⟩ := hW 0 _ rfl
  refine x_get C (ci := 11) (k := 0) 0 k546 rfl in_X12 (by decide) w_1118 rfl dX12_count_134 rfl ?_
  refine x_sipush C (v := 378) dX12_count_137 (by decide) rfl ?_
  obtain ⟨_, k572, f573, pf574, rfl⟩ := hW 1 _ rfl
  refine x_iald C (v := (f573 (378 : Int32).toNatClampNeg)) 1 k572 (vp_k (j := 378) (by decide) (by decide) (by decide)) rfl dX12_count_140 rfl ?_
  refine x_any (fun v575 => ?_)
  exact x_zret C hr hlk rfl dX12_count_141 hW
