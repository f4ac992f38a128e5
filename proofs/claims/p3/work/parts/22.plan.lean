theorem bcn_tab : (List.range 1024).all (fun i => (List.range 11).any (fun k => decide (bc (nI i) = nI k))) = true := by decide +kernel
theorem bc_cnt {i : Nat} (h : i < 1024) : ∃ k : Nat, k ≤ 10 ∧ bc (nI i) = nI k := by
  have q := List.all_eq_true.mp bcn_tab i (List.mem_range.mpr h)
  obtain ⟨k, hk, e⟩ := List.any_eq_true.mp q
  have hk2 := List.mem_range.mp hk
  exact ⟨k, by omega, of_decide_eq_true e⟩
theorem shm_tab : (List.range 11).all (fun n => decide ((1 : Int32) <<< ((nI n) &&& 31) = nI (2 ^ n)) && (decide (1 ≤ 2 ^ n) && decide (2 ^ n ≤ 1024))) = true := by decide +kernel
theorem shm_low {n : Nat} (h : n ≤ 10) : ∃ z : Nat, (1 ≤ z ∧ z ≤ 1024) ∧ (1 : Int32) <<< ((nI n) &&& 31) = nI z := by
  have q := List.all_eq_true.mp shm_tab n (List.mem_range.mpr (by omega))
  obtain ⟨q1, q2⟩ := (Bool.and_eq_true _ _).mp q
  obtain ⟨q2, q3⟩ := (Bool.and_eq_true _ _).mp q2
  exact ⟨2 ^ n, ⟨of_decide_eq_true q2, of_decide_eq_true q3⟩, of_decide_eq_true q1⟩
theorem sbn_tab : (List.range 12).all (fun b => (List.range b).all (fun a => decide (¬ (0 : Int32) ≤ nI a - nI b))) = true := by decide +kernel
theorem sbn {a b : Nat} (h : a < b) (hb : b ≤ 11) : ¬ (0 : Int32) ≤ nI a - nI b := by
  have q := List.all_eq_true.mp sbn_tab b (List.mem_range.mpr (by omega))
  exact of_decide_eq_true (List.all_eq_true.mp q a (List.mem_range.mpr h))
theorem dec_n {k : Nat} (h : 1 ≤ k) : nI k + (-1 : Int32) = nI (k - 1) := by
  rw [← pk_sub h]; exact (Int32.sub_eq_add_neg _ _).symm
theorem and_low {f : Nat} (h : f < 1024) (y : Int32) : ∃ z : Nat, z < 1024 ∧ nI f &&& y = nI z := by
  refine ⟨(BitVec.ofNat 32 f &&& y.toBitVec).toNat, ?_, ?_⟩
  · rw [BitVec.toNat_and]
    have h1 : (BitVec.ofNat 32 f).toNat &&& y.toBitVec.toNat ≤ (BitVec.ofNat 32 f).toNat := Nat.and_le_left
    rw [BitVec.toNat_ofNat] at h1 ⊢
    have h2 := Nat.mod_le f (2 ^ 32)
    omega
  · apply Int32.toBitVec_inj.mp
    show BitVec.ofNat 32 f &&& y.toBitVec = BitVec.ofNat 32 _
    rw [BitVec.ofNat_toNat, BitVec.setWidth_eq]
theorem dX6_isFit_0 : decode cX6_isFit 0 = .ok (.iconst 0, 1) := by decide +kernel
theorem dX6_isFit_1 : decode cX6_isFit 1 = .ok (.istore_n 3, 1) := by decide +kernel
theorem dX6_isFit_2 : decode cX6_isFit 2 = .ok (.sipush 240, 3) := by decide +kernel
theorem dX6_isFit_5 : decode cX6_isFit 5 = .ok (.istore 4, 2) := by decide +kernel
theorem dX6_isFit_7 : decode cX6_isFit 7 = .ok (.iconst 0, 1) := by decide +kernel
theorem dX6_isFit_8 : decode cX6_isFit 8 = .ok (.istore 5, 2) := by decide +kernel
theorem dX6_isFit_10 : decode cX6_isFit 10 = .ok (.iload 5, 2) := by decide +kernel
theorem dX6_isFit_12 : decode cX6_isFit 12 = .ok (.aload_n 0, 1) := by decide +kernel
theorem dX6_isFit_13 : decode cX6_isFit 13 = .ok (.getfield 18, 3) := by decide +kernel
theorem dX6_isFit_16 : decode cX6_isFit 16 = .ok (.if_icmp .ge 43, 3) := by decide +kernel
theorem dX6_isFit_19 : decode cX6_isFit 19 = .ok (.iload_n 1, 1) := by decide +kernel
theorem dX6_isFit_20 : decode cX6_isFit 20 = .ok (.iload 5, 2) := by decide +kernel
theorem dX6_isFit_22 : decode cX6_isFit 22 = .ok (.ishr, 1) := by decide +kernel
theorem dX6_isFit_23 : decode cX6_isFit 23 = .ok (.iconst 1, 1) := by decide +kernel
theorem dX6_isFit_24 : decode cX6_isFit 24 = .ok (.iand, 1) := by decide +kernel
theorem dX6_isFit_25 : decode cX6_isFit 25 = .ok (.iconst 1, 1) := by decide +kernel
theorem dX6_isFit_26 : decode cX6_isFit 26 = .ok (.if_icmp .ne 27, 3) := by decide +kernel
theorem dX6_isFit_29 : decode cX6_isFit 29 = .ok (.iload_n 3, 1) := by decide +kernel
theorem dX6_isFit_30 : decode cX6_isFit 30 = .ok (.aload_n 0, 1) := by decide +kernel
theorem dX6_isFit_31 : decode cX6_isFit 31 = .ok (.getfield 15, 3) := by decide +kernel
theorem dX6_isFit_34 : decode cX6_isFit 34 = .ok (.iload 5, 2) := by decide +kernel
theorem dX6_isFit_36 : decode cX6_isFit 36 = .ok (.iaload, 1) := by decide +kernel
theorem dX6_isFit_37 : decode cX6_isFit 37 = .ok (.iadd, 1) := by decide +kernel
theorem dX6_isFit_38 : decode cX6_isFit 38 = .ok (.istore_n 3, 1) := by decide +kernel
theorem dX6_isFit_39 : decode cX6_isFit 39 = .ok (.iload 4, 2) := by decide +kernel
theorem dX6_isFit_41 : decode cX6_isFit 41 = .ok (.aload_n 0, 1) := by decide +kernel
theorem dX6_isFit_42 : decode cX6_isFit 42 = .ok (.getfield 15, 3) := by decide +kernel
theorem dX6_isFit_45 : decode cX6_isFit 45 = .ok (.iload 5, 2) := by decide +kernel
theorem dX6_isFit_47 : decode cX6_isFit 47 = .ok (.iaload, 1) := by decide +kernel
theorem dX6_isFit_48 : decode cX6_isFit 48 = .ok (.invokestatic 105, 3) := by decide +kernel
theorem dX6_isFit_51 : decode cX6_isFit 51 = .ok (.istore 4, 2) := by decide +kernel
theorem dX6_isFit_53 : decode cX6_isFit 53 = .ok (.iinc 5 1, 3) := by decide +kernel
theorem dX6_isFit_56 : decode cX6_isFit 56 = .ok (.goto (-46), 3) := by decide +kernel
theorem dX6_isFit_59 : decode cX6_isFit 59 = .ok (.iload_n 3, 1) := by decide +kernel
theorem dX6_isFit_60 : decode cX6_isFit 60 = .ok (.iload_n 2, 1) := by decide +kernel
theorem dX6_isFit_61 : decode cX6_isFit 61 = .ok (.if_icmp .lt 15, 3) := by decide +kernel
theorem dX6_isFit_64 : decode cX6_isFit 64 = .ok (.iload_n 3, 1) := by decide +kernel
theorem dX6_isFit_65 : decode cX6_isFit 65 = .ok (.iload 4, 2) := by decide +kernel
theorem dX6_isFit_67 : decode cX6_isFit 67 = .ok (.isub, 1) := by decide +kernel
theorem dX6_isFit_68 : decode cX6_isFit 68 = .ok (.iload_n 2, 1) := by decide +kernel
theorem dX6_isFit_69 : decode cX6_isFit 69 = .ok (.if_icmp .ge 7, 3) := by decide +kernel
theorem dX6_isFit_72 : decode cX6_isFit 72 = .ok (.iconst 1, 1) := by decide +kernel
theorem dX6_isFit_73 : decode cX6_isFit 73 = .ok (.goto 4, 3) := by decide +kernel
theorem dX6_isFit_76 : decode cX6_isFit 76 = .ok (.iconst 0, 1) := by decide +kernel
theorem dX6_isFit_77 : decode cX6_isFit 77 = .ok (.ireturn, 1) := by decide +kernel
set_option maxRecDepth 20000 in
set_option maxHeartbeats 4000000 in
theorem c_isFit (E : xE) (l : Launch) (a : Nat → Nat) (ws : va_W) (hW : WX (okX E a) ws) (p0 : Int32) (p1 : Int32) : xI E l yX6_isFit cX6_isFit 6 (some .boolean) 1 [.ref (a 92), .int p0, .int p1] ws (fun r w => w = ws ∧ zb r) := by
  refine xI_start (lv := [(0, .ref (a 92)), (1, .int p0), (2, .int p1)]) RX6 (by decide) rfl (Nat.le_of_ble_eq_true rfl) rfl (fun p e s m below meth c A C hr hlk => ?_)
  refine x_iconst C (v := 0) dX6_isFit_0 (by decide) rfl ?_
  refine x_istore_n C (lv' := [(3, .int 0), (0, .ref (a 92)), (1, .int p0), (2, .int p1)]) dX6_isFit_1 rfl (by decide) rfl rfl ?_
  refine x_sipush C (v := 240) dX6_isFit_2 (by decide) rfl ?_
  refine x_istore C (lv' := [(4, .int 240), (3, .int 0), (0, .ref (a 92)), (1, .int p0), (2, .int p1)]) dX6_isFit_5 (by decide) rfl rfl ?_
  refine x_iconst C (v := 0) dX6_isFit_7 (by decide) rfl ?_
  refine x_istore C (lv' := [(5, .int 0), (4, .int 240), (3, .int 0), (0, .ref (a 92)), (1, .int p0), (2, .int p1)]) dX6_isFit_8 (by decide) rfl rfl ?_
  have loop10 : ∀ (fu10 : Nat) (z10_3 : Int32) (z10_4 : Int32) (k : Nat), True → 10 - k < fu10 → k ≤ 10 → X E p l e (xRm 1 0 0) s m ([.ref (a 92), .int p0, .int p1] : List Value).toArray below meth c A 6 0 0 (MQ below (va_Qi (fun r w => w = ws ∧ zb r) (xB E A) A) ([.ref (a 92), .int p0, .int p1] : List Value).toArray s 0 0 A) ws 10 [(0, .ref (a 92)), (1, .int p0), (2, .int p1), (3, .int z10_3), (4, .int z10_4), (5, .int (nI k))] [] := by
    intro fu10
    induction fu10 with
    | zero => intro z10_3 z10_4 k _ q; omega
    | succ fu10 ih10 =>
      intro z10_3 z10_4 k _ me10 iv10_0
      refine x_iload C dX6_isFit_10 5 rfl rfl ?_
      refine x_aload_n C dX6_isFit_12 rfl 0 rfl rfl ?_
      obtain ⟨_, k1, n2, n4, v6, bn3, bn5, rfl⟩ := hW 92 _ rfl
      refine x_get C (ci := 5) (k := 2) 92 k1 rfl in_X6 (by decide) w_322 rfl dX6_isFit_13 rfl ?_
      refine x_icmp_ge C (tgt := 59) dX6_isFit_16 (by decide) rfl (fun c7 => ?_) (fun c7 => ?_)
      · skip
        have nf8 := nI_le' (a := n2) (b := k) c7 (by omega) (by omega)
        refine x_iload_n C dX6_isFit_59 rfl 3 rfl rfl ?_
        refine x_iload_n C dX6_isFit_60 rfl 2 rfl rfl ?_
        refine x_icmp_lt C (tgt := 76) dX6_isFit_61 (by decide) rfl (fun c9 => ?_) (fun c9 => ?_)
        · skip
          refine x_iconst C (v := 0) dX6_isFit_76 (by decide) rfl ?_
          exact x_zret C hr hlk rfl dX6_isFit_77 ⟨rfl, (Or.inl rfl)⟩
        · skip
          refine x_iload_n C dX6_isFit_64 rfl 3 rfl rfl ?_
          refine x_iload C dX6_isFit_65 4 rfl rfl ?_
          refine x_isub C (v := (z10_3 - z10_4)) dX6_isFit_67 rfl rfl ?_
          refine x_any (fun v10 => ?_)
          refine x_iload_n C dX6_isFit_68 rfl 2 rfl rfl ?_
          refine x_icmp_ge C (tgt := 76) dX6_isFit_69 (by decide) rfl (fun c11 => ?_) (fun c11 => ?_)
          · skip
            refine x_iconst C (v := 0) dX6_isFit_76 (by decide) rfl ?_
            exact x_zret C hr hlk rfl dX6_isFit_77 ⟨rfl, (Or.inl rfl)⟩
          · skip
            refine x_iconst C (v := 1) dX6_isFit_72 (by decide) rfl ?_
            refine x_goto C (tgt := 77) dX6_isFit_73 (by decide) ?_
            exact x_zret C hr hlk rfl dX6_isFit_77 ⟨rfl, (Or.inr rfl)⟩
      · skip
        have nf12 := nI_nle' (a := n2) (b := k) c7 (by omega) (by omega)
        refine x_iload_n C dX6_isFit_19 rfl 1 rfl rfl ?_
        refine x_iload C dX6_isFit_20 5 rfl rfl ?_
        refine x_ishr C (v := (p0 >>> ((nI k) &&& 31))) dX6_isFit_22 rfl rfl ?_
        refine x_any (fun v13 => ?_)
        refine x_iconst C (v := 1) dX6_isFit_23 (by decide) rfl ?_
        refine x_iand C (v := (v13 &&& (1 : Int32))) dX6_isFit_24 rfl rfl ?_
        refine x_any (fun v14 => ?_)
        refine x_iconst C (v := 1) dX6_isFit_25 (by decide) rfl ?_
        refine x_icmp_ne C (tgt := 53) dX6_isFit_26 (by decide) rfl (fun c15 => ?_) (fun c15 => ?_)
        · skip
          refine x_iinc C (v := (nI (k + 1))) (lv' := [(5, .int (nI (k + 1))), (0, .ref (a 92)), (1, .int p0), (2, .int p1), (3, .int z10_3), (4, .int z10_4)]) dX6_isFit_53 5 rfl (nI_add k 1) (by decide) rfl rfl ?_
          refine x_goto C (tgt := 10) dX6_isFit_56 (by decide) ?_
          refine x_lv (lv1 := [(0, .ref (a 92)), (1, .int p0), (2, .int p1), (3, .int z10_3), (4, .int z10_4), (5, .int (nI (k + 1)))]) [1, 2, 3, 4, 5, 0] rfl ?_
          exact ih10 z10_3 z10_4 (k + 1) trivial (by omega) (by omega)
        · skip
          refine x_iload_n C dX6_isFit_29 rfl 3 rfl rfl ?_
          refine x_aload_n C dX6_isFit_30 rfl 0 rfl rfl ?_
          refine x_get C (ci := 5) (k := 1) 92 k1 rfl in_X6 (by decide) w_321 rfl dX6_isFit_31 rfl ?_
          refine x_iload C dX6_isFit_34 5 rfl rfl ?_
          obtain ⟨_, k16, f17, rfl⟩ := hW 94 _ rfl
          refine x_iald C (v := (f17 (nI k).toNatClampNeg)) 94 k16 (vp_in_nI (by omega) (by decide)) rfl dX6_isFit_36 rfl ?_
          refine x_any (fun v18 => ?_)
          refine x_iadd C (v := (z10_3 + v18)) dX6_isFit_37 rfl rfl ?_
          refine x_any (fun v19 => ?_)
          refine x_istore_n C (lv' := [(3, .int v19), (0, .ref (a 92)), (1, .int p0), (2, .int p1), (4, .int z10_4), (5, .int (nI k))]) dX6_isFit_38 rfl (by decide) rfl rfl ?_
          refine x_iload C dX6_isFit_39 4 rfl rfl ?_
          refine x_aload_n C dX6_isFit_41 rfl 1 rfl rfl ?_
          refine x_get C (ci := 5) (k := 1) 92 k1 rfl in_X6 (by decide) w_321 rfl dX6_isFit_42 rfl ?_
          refine x_iload C dX6_isFit_45 5 rfl rfl ?_
          refine x_iald C (v := (f17 (nI k).toNatClampNeg)) 94 k16 (vp_in_nI (by omega) (by decide)) rfl dX6_isFit_47 rfl ?_
          refine x_any (fun v20 => ?_)
          refine x_mmin C (v := (if v20 < z10_4 then v20 else z10_4)) w_925 w_561 w_16 w_562 (Nat.le_of_ble_eq_true rfl) (Nat.le_of_ble_eq_true rfl) (Nat.le_of_ble_eq_true rfl) (Nat.le_of_ble_eq_true rfl) rfl dX6_isFit_48 rfl ?_
          refine x_any (fun v21 => ?_)
          refine x_istore C (lv' := [(4, .int v21), (3, .int v19), (0, .ref (a 92)), (1, .int p0), (2, .int p1), (5, .int (nI k))]) dX6_isFit_51 (by decide) rfl rfl ?_
          refine x_iinc C (v := (nI (k + 1))) (lv' := [(5, .int (nI (k + 1))), (4, .int v21), (3, .int v19), (0, .ref (a 92)), (1, .int p0), (2, .int p1)]) dX6_isFit_53 5 rfl (nI_add k 1) (by decide) rfl rfl ?_
          refine x_goto C (tgt := 10) dX6_isFit_56 (by decide) ?_
          refine x_lv (lv1 := [(0, .ref (a 92)), (1, .int p0), (2, .int p1), (3, .int v19), (4, .int v21), (5, .int (nI (k + 1)))]) [3, 4, 5, 2, 1, 0] rfl ?_
          exact ih10 v19 v21 (k + 1) trivial (by omega) (by omega)
  refine x_lv (lv1 := [(0, .ref (a 92)), (1, .int p0), (2, .int p1), (3, .int 0), (4, .int 240), (5, .int 0)]) [3, 4, 5, 2, 1, 0] rfl ?_
  exact loop10 _ (0 : Int32) (240 : Int32) 0 trivial (Nat.lt_succ_self _) (by omega)
theorem dX6_gain_0 : decode cX6_gain 0 = .ok (.aload_n 0, 1) := by decide +kernel
theorem dX6_gain_1 : decode cX6_gain 1 = .ok (.getfield 28, 3) := by decide +kernel
theorem dX6_gain_4 : decode cX6_gain 4 = .ok (.iload_n 1, 1) := by decide +kernel
theorem dX6_gain_5 : decode cX6_gain 5 = .ok (.iaload, 1) := by decide +kernel
theorem dX6_gain_6 : decode cX6_gain 6 = .ok (.bipush 16, 2) := by decide +kernel
theorem dX6_gain_8 : decode cX6_gain 8 = .ok (.imul, 1) := by decide +kernel
theorem dX6_gain_9 : decode cX6_gain 9 = .ok (.iload_n 2, 1) := by decide +kernel
theorem dX6_gain_10 : decode cX6_gain 10 = .ok (.isub, 1) := by decide +kernel
theorem dX6_gain_11 : decode cX6_gain 11 = .ok (.ireturn, 1) := by decide +kernel
set_option maxRecDepth 20000 in
set_option maxHeartbeats 4000000 in
theorem c_gain (E : xE) (l : Launch) (a : Nat → Nat) (ws : va_W) (hW : WX (okX E a) ws) (k0 : Nat) (p1 : Int32) (hk0 : k0 ≤ 3) : xI E l yX6_gain cX6_gain 3 (some .int) 0 [.ref (a 92), .int (nI k0), .int p1] ws (fun r w => w = ws) := by
  refine xI_start (lv := [(0, .ref (a 92)), (1, .int (nI k0)), (2, .int p1)]) RX6 (by decide) rfl (Nat.le_of_ble_eq_true rfl) rfl (fun p e s m below meth c A C hr hlk => ?_)
  refine x_aload_n C dX6_gain_0 rfl 0 rfl rfl ?_
  obtain ⟨_, k1, n2, n4, v6, bn3, bn5, rfl⟩ := hW 92 _ rfl
  refine x_get C (ci := 5) (k := 5) 92 k1 rfl in_X6 (by decide) w_325 rfl dX6_gain_1 rfl ?_
  refine x_iload_n C dX6_gain_4 rfl 1 rfl rfl ?_
  obtain ⟨_, k7, f8, rfl⟩ := hW 96 _ rfl
  refine x_iald C (v := (f8 (nI k0).toNatClampNeg)) 96 k7 (vp_in_nI (by omega) (by decide)) rfl dX6_gain_5 rfl ?_
  refine x_any (fun v9 => ?_)
  refine x_bipush C (v := 16) dX6_gain_6 (by decide) rfl ?_
  refine x_imul C (v := (v9 * (16 : Int32))) dX6_gain_8 rfl rfl ?_
  refine x_any (fun v10 => ?_)
  refine x_iload_n C dX6_gain_9 rfl 2 rfl rfl ?_
  refine x_isub C (v := (v10 - p1)) dX6_gain_10 rfl rfl ?_
  refine x_any (fun v11 => ?_)
  exact x_zret C hr hlk rfl dX6_gain_11 rfl
theorem dX6_bestWorth_0 : decode cX6_bestWorth 0 = .ok (.aload_n 0, 1) := by decide +kernel
theorem dX6_bestWorth_1 : decode cX6_bestWorth 1 = .ok (.getfield 49, 3) := by decide +kernel
theorem dX6_bestWorth_4 : decode cX6_bestWorth 4 = .ok (.bipush 10, 2) := by decide +kernel
theorem dX6_bestWorth_6 : decode cX6_bestWorth 6 = .ok (.iadd, 1) := by decide +kernel
theorem dX6_bestWorth_7 : decode cX6_bestWorth 7 = .ok (.bipush 16, 2) := by decide +kernel
theorem dX6_bestWorth_9 : decode cX6_bestWorth 9 = .ok (.idiv, 1) := by decide +kernel
theorem dX6_bestWorth_10 : decode cX6_bestWorth 10 = .ok (.ireturn, 1) := by decide +kernel
set_option maxRecDepth 20000 in
set_option maxHeartbeats 4000000 in
theorem c_bestWorth (E : xE) (l : Launch) (a : Nat → Nat) (ws : va_W) (hW : WX (okX E a) ws) : xI E l yX6_bestWorth cX6_bestWorth 1 (some .int) 0 [.ref (a 92)] ws (fun r w => w = ws) := by
  refine xI_start (lv := [(0, .ref (a 92))]) RX6 (by decide) rfl (Nat.le_of_ble_eq_true rfl) rfl (fun p e s m below meth c A C hr hlk => ?_)
  refine x_aload_n C dX6_bestWorth_0 rfl 0 rfl rfl ?_
  obtain ⟨_, k1, n2, n4, v6, bn3, bn5, rfl⟩ := hW 92 _ rfl
  refine x_get C (ci := 5) (k := 12) 92 k1 rfl in_X6 (by decide) w_332 rfl dX6_bestWorth_1 rfl ?_
  refine x_bipush C (v := 10) dX6_bestWorth_4 (by decide) rfl ?_
  refine x_iadd C (v := (v6 + (10 : Int32))) dX6_bestWorth_6 rfl rfl ?_
  refine x_any (fun v7 => ?_)
  refine x_bipush C (v := 16) dX6_bestWorth_7 (by decide) rfl ?_
  refine x_idiv C (v := (v7 / (16 : Int32))) dX6_bestWorth_9 (by decide) rfl rfl ?_
  refine x_any (fun v8 => ?_)
  exact x_zret C hr hlk rfl dX6_bestWorth_10 rfl
theorem dX6_bestEggs_0 : decode cX6_bestEggs 0 = .ok (.aload_n 0, 1) := by decide +kernel
theorem dX6_bestEggs_1 : decode cX6_bestEggs 1 = .ok (.invokevirtual 123, 3) := by decide +kernel
theorem dX6_bestEggs_4 : decode cX6_bestEggs 4 = .ok (.bipush 16, 2) := by decide +kernel
theorem dX6_bestEggs_6 : decode cX6_bestEggs 6 = .ok (.imul, 1) := by decide +kernel
theorem dX6_bestEggs_7 : decode cX6_bestEggs 7 = .ok (.aload_n 0, 1) := by decide +kernel
theorem dX6_bestEggs_8 : decode cX6_bestEggs 8 = .ok (.getfield 49, 3) := by decide +kernel
theorem dX6_bestEggs_11 : decode cX6_bestEggs 11 = .ok (.isub, 1) := by decide +kernel
theorem dX6_bestEggs_12 : decode cX6_bestEggs 12 = .ok (.ireturn, 1) := by decide +kernel
set_option maxRecDepth 20000 in
set_option maxHeartbeats 4000000 in
theorem c_bestEggs (E : xE) (l : Launch) (a : Nat → Nat) (ws : va_W) (hW : WX (okX E a) ws) : xI E l yX6_bestEggs cX6_bestEggs 1 (some .int) 1 [.ref (a 92)] ws (fun r w => w = ws) := by
  refine xI_start (lv := [(0, .ref (a 92))]) RX6 (by decide) rfl (Nat.le_of_ble_eq_true rfl) rfl (fun p e s m below meth c A C hr hlk => ?_)
  refine x_aload_n C dX6_bestEggs_0 rfl 0 rfl rfl ?_
  obtain ⟨_, k1, n2, n4, v6, bn3, bn5, rfl⟩ := hW 92 _ rfl
  refine x_vi C (As := []) (rest := []) (c_bestWorth E l a ws hW) mf_X6_bestWorth w_949 92 k1 rfl rfl rfl (Nat.le_of_ble_eq_true rfl) ⟨(Nat.le_of_ble_eq_true rfl), (Nat.le_of_ble_eq_true rfl)⟩ ⟨(Nat.le_of_ble_eq_true rfl), (Nat.le_of_ble_eq_true rfl)⟩ dX6_bestEggs_1 rfl (fun r8 w9 h7 => ?_)
  have hW10 := h7
  refine x_ws hW10 ?_
  refine x_bipush C (v := 16) dX6_bestEggs_4 (by decide) rfl ?_
  refine x_imul C (v := (r8 * (16 : Int32))) dX6_bestEggs_6 rfl rfl ?_
  refine x_any (fun v11 => ?_)
  refine x_aload_n C dX6_bestEggs_7 rfl 0 rfl rfl ?_
  refine x_get C (ci := 5) (k := 12) 92 k1 rfl in_X6 (by decide) w_332 rfl dX6_bestEggs_8 rfl ?_
  refine x_isub C (v := (v11 - v6)) dX6_bestEggs_11 rfl rfl ?_
  refine x_any (fun v12 => ?_)
  exact x_zret C hr hlk rfl dX6_bestEggs_12 rfl
theorem dX6_rowOf_0 : decode cX6_rowOf 0 = .ok (.iconst 0, 1) := by decide +kernel
theorem dX6_rowOf_1 : decode cX6_rowOf 1 = .ok (.istore_n 2, 1) := by decide +kernel
theorem dX6_rowOf_2 : decode cX6_rowOf 2 = .ok (.iload_n 2, 1) := by decide +kernel
theorem dX6_rowOf_3 : decode cX6_rowOf 3 = .ok (.aload_n 0, 1) := by decide +kernel
theorem dX6_rowOf_4 : decode cX6_rowOf 4 = .ok (.getfield 22, 3) := by decide +kernel
theorem dX6_rowOf_7 : decode cX6_rowOf 7 = .ok (.if_icmp .ge 26, 3) := by decide +kernel
theorem dX6_rowOf_10 : decode cX6_rowOf 10 = .ok (.aload_n 0, 1) := by decide +kernel
theorem dX6_rowOf_11 : decode cX6_rowOf 11 = .ok (.getfield 25, 3) := by decide +kernel
theorem dX6_rowOf_14 : decode cX6_rowOf 14 = .ok (.iload_n 2, 1) := by decide +kernel
theorem dX6_rowOf_15 : decode cX6_rowOf 15 = .ok (.iaload, 1) := by decide +kernel
theorem dX6_rowOf_16 : decode cX6_rowOf 16 = .ok (.iload_n 1, 1) := by decide +kernel
theorem dX6_rowOf_17 : decode cX6_rowOf 17 = .ok (.if_icmp .ne 10, 3) := by decide +kernel
theorem dX6_rowOf_20 : decode cX6_rowOf 20 = .ok (.aload_n 0, 1) := by decide +kernel
theorem dX6_rowOf_21 : decode cX6_rowOf 21 = .ok (.getfield 46, 3) := by decide +kernel
theorem dX6_rowOf_24 : decode cX6_rowOf 24 = .ok (.iload_n 2, 1) := by decide +kernel
theorem dX6_rowOf_25 : decode cX6_rowOf 25 = .ok (.iaload, 1) := by decide +kernel
theorem dX6_rowOf_26 : decode cX6_rowOf 26 = .ok (.ireturn, 1) := by decide +kernel
theorem dX6_rowOf_27 : decode cX6_rowOf 27 = .ok (.iinc 2 1, 3) := by decide +kernel
theorem dX6_rowOf_30 : decode cX6_rowOf 30 = .ok (.goto (-28), 3) := by decide +kernel
theorem dX6_rowOf_33 : decode cX6_rowOf 33 = .ok (.iconst (-1), 1) := by decide +kernel
theorem dX6_rowOf_34 : decode cX6_rowOf 34 = .ok (.ireturn, 1) := by decide +kernel
set_option maxRecDepth 20000 in
set_option maxHeartbeats 4000000 in
theorem c_rowOf (E : xE) (l : Launch) (a : Nat → Nat) (ws : va_W) (hW : WX (okX E a) ws) (p0 : Int32) : xI E l yX6_rowOf cX6_rowOf 3 (some .int) 0 [.ref (a 92), .int p0] ws (fun r w => w = ws) := by
  refine xI_start (lv := [(0, .ref (a 92)), (1, .int p0)]) RX6 (by decide) rfl (Nat.le_of_ble_eq_true rfl) rfl (fun p e s m below meth c A C hr hlk => ?_)
  refine x_iconst C (v := 0) dX6_rowOf_0 (by decide) rfl ?_
  refine x_istore_n C (lv' := [(2, .int 0), (0, .ref (a 92)), (1, .int p0)]) dX6_rowOf_1 rfl (by decide) rfl rfl ?_
  have loop2 : ∀ (fu2 : Nat) (k : Nat), True → 4 - k < fu2 → k ≤ 4 → X E p l e (xRm 0 0 0) s m ([.ref (a 92), .int p0] : List Value).toArray below meth c A 3 0 0 (MQ below (va_Qi (fun r w => w = ws) (xB E A) A) ([.ref (a 92), .int p0] : List Value).toArray s 0 0 A) ws 2 [(0, .ref (a 92)), (1, .int p0), (2, .int (nI k))] [] := by
    intro fu2
    induction fu2 with
    | zero => intro k _ q; omega
    | succ fu2 ih2 =>
      intro k _ me2 iv2_0
      refine x_iload_n C dX6_rowOf_2 rfl 2 rfl rfl ?_
      refine x_aload_n C dX6_rowOf_3 rfl 0 rfl rfl ?_
      obtain ⟨_, k1, n2, n4, v6, bn3, bn5, rfl⟩ := hW 92 _ rfl
      refine x_get C (ci := 5) (k := 3) 92 k1 rfl in_X6 (by decide) w_323 rfl dX6_rowOf_4 rfl ?_
      refine x_icmp_ge C (tgt := 33) dX6_rowOf_7 (by decide) rfl (fun c7 => ?_) (fun c7 => ?_)
      · skip
        have nf8 := nI_le' (a := n4) (b := k) c7 (by omega) (by omega)
        refine x_iconst C (v := (-1)) dX6_rowOf_33 (by decide) rfl ?_
        exact x_zret C hr hlk rfl dX6_rowOf_34 rfl
      · skip
        have nf9 := nI_nle' (a := n4) (b := k) c7 (by omega) (by omega)
        refine x_aload_n C dX6_rowOf_10 rfl 0 rfl rfl ?_
        refine x_get C (ci := 5) (k := 4) 92 k1 rfl in_X6 (by decide) w_324 rfl dX6_rowOf_11 rfl ?_
        refine x_iload_n C dX6_rowOf_14 rfl 2 rfl rfl ?_
        obtain ⟨_, k10, f11, rfl⟩ := hW 95 _ rfl
        refine x_iald C (v := (f11 (nI k).toNatClampNeg)) 95 k10 (vp_in_nI (by omega) (by decide)) rfl dX6_rowOf_15 rfl ?_
        refine x_any (fun v12 => ?_)
        refine x_iload_n C dX6_rowOf_16 rfl 1 rfl rfl ?_
        refine x_icmp_ne C (tgt := 27) dX6_rowOf_17 (by decide) rfl (fun c13 => ?_) (fun c13 => ?_)
        · skip
          refine x_iinc C (v := (nI (k + 1))) (lv' := [(2, .int (nI (k + 1))), (0, .ref (a 92)), (1, .int p0)]) dX6_rowOf_27 2 rfl (nI_add k 1) (by decide) rfl rfl ?_
          refine x_goto C (tgt := 2) dX6_rowOf_30 (by decide) ?_
          refine x_lv (lv1 := [(0, .ref (a 92)), (1, .int p0), (2, .int (nI (k + 1)))]) [1, 2, 0] rfl ?_
          exact ih2 (k + 1) trivial (by omega) (by omega)
        · skip
          refine x_aload_n C dX6_rowOf_20 rfl 0 rfl rfl ?_
          refine x_get C (ci := 5) (k := 11) 92 k1 rfl in_X6 (by decide) w_331 rfl dX6_rowOf_21 rfl ?_
          refine x_iload_n C dX6_rowOf_24 rfl 2 rfl rfl ?_
          obtain ⟨_, k14, f15, rfl⟩ := hW 102 _ rfl
          refine x_iald C (v := (f15 (nI k).toNatClampNeg)) 102 k14 (vp_in_nI (by omega) (by decide)) rfl dX6_rowOf_25 rfl ?_
          refine x_any (fun v16 => ?_)
          exact x_zret C hr hlk rfl dX6_rowOf_26 rfl
  refine x_lv (lv1 := [(0, .ref (a 92)), (1, .int p0), (2, .int 0)]) [1, 2, 0] rfl ?_
  exact loop2 _ 0 trivial (Nat.lt_succ_self _) (by omega)
theorem dX6_findFits_0 : decode cX6_findFits 0 = .ok (.aload_n 1, 1) := by decide +kernel
theorem dX6_findFits_1 : decode cX6_findFits 1 = .ok (.getfield 67, 3) := by decide +kernel
theorem dX6_findFits_4 : decode cX6_findFits 4 = .ok (.getfield 84, 3) := by decide +kernel
theorem dX6_findFits_7 : decode cX6_findFits 7 = .ok (.iload_n 3, 1) := by decide +kernel
theorem dX6_findFits_8 : decode cX6_findFits 8 = .ok (.iaload, 1) := by decide +kernel
theorem dX6_findFits_9 : decode cX6_findFits 9 = .ok (.aload_n 1, 1) := by decide +kernel
theorem dX6_findFits_10 : decode cX6_findFits 10 = .ok (.getfield 67, 3) := by decide +kernel
theorem dX6_findFits_13 : decode cX6_findFits 13 = .ok (.getfield 87, 3) := by decide +kernel
theorem dX6_findFits_16 : decode cX6_findFits 16 = .ok (.iload_n 3, 1) := by decide +kernel
theorem dX6_findFits_17 : decode cX6_findFits 17 = .ok (.iaload, 1) := by decide +kernel
theorem dX6_findFits_18 : decode cX6_findFits 18 = .ok (.isub, 1) := by decide +kernel
theorem dX6_findFits_19 : decode cX6_findFits 19 = .ok (.istore 4, 2) := by decide +kernel
theorem dX6_findFits_21 : decode cX6_findFits 21 = .ok (.iconst 0, 1) := by decide +kernel
theorem dX6_findFits_22 : decode cX6_findFits 22 = .ok (.istore 5, 2) := by decide +kernel
theorem dX6_findFits_24 : decode cX6_findFits 24 = .ok (.iload 5, 2) := by decide +kernel
theorem dX6_findFits_26 : decode cX6_findFits 26 = .ok (.aload_n 0, 1) := by decide +kernel
theorem dX6_findFits_27 : decode cX6_findFits 27 = .ok (.getfield 18, 3) := by decide +kernel
theorem dX6_findFits_30 : decode cX6_findFits 30 = .ok (.if_icmp .ge 30, 3) := by decide +kernel
theorem dX6_findFits_33 : decode cX6_findFits 33 = .ok (.aload_n 0, 1) := by decide +kernel
theorem dX6_findFits_34 : decode cX6_findFits 34 = .ok (.getfield 15, 3) := by decide +kernel
theorem dX6_findFits_37 : decode cX6_findFits 37 = .ok (.iload 5, 2) := by decide +kernel
theorem dX6_findFits_39 : decode cX6_findFits 39 = .ok (.aload_n 2, 1) := by decide +kernel
theorem dX6_findFits_40 : decode cX6_findFits 40 = .ok (.iconst 5, 1) := by decide +kernel
theorem dX6_findFits_41 : decode cX6_findFits 41 = .ok (.aload_n 1, 1) := by decide +kernel
theorem dX6_findFits_42 : decode cX6_findFits 42 = .ok (.aload_n 0, 1) := by decide +kernel
theorem dX6_findFits_43 : decode cX6_findFits 43 = .ok (.getfield 9, 3) := by decide +kernel
theorem dX6_findFits_46 : decode cX6_findFits 46 = .ok (.iload 5, 2) := by decide +kernel
theorem dX6_findFits_48 : decode cX6_findFits 48 = .ok (.iaload, 1) := by decide +kernel
theorem dX6_findFits_49 : decode cX6_findFits 49 = .ok (.iload_n 3, 1) := by decide +kernel
theorem dX6_findFits_50 : decode cX6_findFits 50 = .ok (.invokevirtual 90, 3) := by decide +kernel
theorem dX6_findFits_53 : decode cX6_findFits 53 = .ok (.iastore, 1) := by decide +kernel
theorem dX6_findFits_54 : decode cX6_findFits 54 = .ok (.iinc 5 1, 3) := by decide +kernel
theorem dX6_findFits_57 : decode cX6_findFits 57 = .ok (.goto (-33), 3) := by decide +kernel
theorem dX6_findFits_60 : decode cX6_findFits 60 = .ok (.aload_n 0, 1) := by decide +kernel
theorem dX6_findFits_61 : decode cX6_findFits 61 = .ok (.getfield 34, 3) := by decide +kernel
theorem dX6_findFits_64 : decode cX6_findFits 64 = .ok (.aload_n 0, 1) := by decide +kernel
theorem dX6_findFits_65 : decode cX6_findFits 65 = .ok (.getfield 22, 3) := by decide +kernel
theorem dX6_findFits_68 : decode cX6_findFits 68 = .ok (.iconst 0, 1) := by decide +kernel
theorem dX6_findFits_69 : decode cX6_findFits 69 = .ok (.iastore, 1) := by decide +kernel
theorem dX6_findFits_70 : decode cX6_findFits 70 = .ok (.aload_n 0, 1) := by decide +kernel
theorem dX6_findFits_71 : decode cX6_findFits 71 = .ok (.getfield 37, 3) := by decide +kernel
theorem dX6_findFits_74 : decode cX6_findFits 74 = .ok (.aload_n 0, 1) := by decide +kernel
theorem dX6_findFits_75 : decode cX6_findFits 75 = .ok (.getfield 22, 3) := by decide +kernel
theorem dX6_findFits_78 : decode cX6_findFits 78 = .ok (.bipush 11, 2) := by decide +kernel
theorem dX6_findFits_80 : decode cX6_findFits 80 = .ok (.iastore, 1) := by decide +kernel
theorem dX6_findFits_81 : decode cX6_findFits 81 = .ok (.iconst 1, 1) := by decide +kernel
theorem dX6_findFits_82 : decode cX6_findFits 82 = .ok (.istore 5, 2) := by decide +kernel
theorem dX6_findFits_84 : decode cX6_findFits 84 = .ok (.iload 5, 2) := by decide +kernel
theorem dX6_findFits_86 : decode cX6_findFits 86 = .ok (.iconst 1, 1) := by decide +kernel
theorem dX6_findFits_87 : decode cX6_findFits 87 = .ok (.aload_n 0, 1) := by decide +kernel
theorem dX6_findFits_88 : decode cX6_findFits 88 = .ok (.getfield 18, 3) := by decide +kernel
theorem dX6_findFits_91 : decode cX6_findFits 91 = .ok (.ishl, 1) := by decide +kernel
theorem dX6_findFits_92 : decode cX6_findFits 92 = .ok (.if_icmp .ge 99, 3) := by decide +kernel
theorem dX6_findFits_95 : decode cX6_findFits 95 = .ok (.aload_n 0, 1) := by decide +kernel
theorem dX6_findFits_96 : decode cX6_findFits 96 = .ok (.iload 5, 2) := by decide +kernel
theorem dX6_findFits_98 : decode cX6_findFits 98 = .ok (.iload 4, 2) := by decide +kernel
theorem dX6_findFits_100 : decode cX6_findFits 100 = .ok (.invokevirtual 96, 3) := by decide +kernel
theorem dX6_findFits_103 : decode cX6_findFits 103 = .ok (.ifCond .eq 82, 3) := by decide +kernel
theorem dX6_findFits_106 : decode cX6_findFits 106 = .ok (.aload_n 0, 1) := by decide +kernel
theorem dX6_findFits_107 : decode cX6_findFits 107 = .ok (.getfield 34, 3) := by decide +kernel
theorem dX6_findFits_110 : decode cX6_findFits 110 = .ok (.aload_n 0, 1) := by decide +kernel
theorem dX6_findFits_111 : decode cX6_findFits 111 = .ok (.getfield 22, 3) := by decide +kernel
theorem dX6_findFits_114 : decode cX6_findFits 114 = .ok (.iaload, 1) := by decide +kernel
theorem dX6_findFits_115 : decode cX6_findFits 115 = .ok (.sipush 252, 3) := by decide +kernel
theorem dX6_findFits_118 : decode cX6_findFits 118 = .ok (.if_icmp .ge 67, 3) := by decide +kernel
theorem dX6_findFits_121 : decode cX6_findFits 121 = .ok (.aload_n 0, 1) := by decide +kernel
theorem dX6_findFits_122 : decode cX6_findFits 122 = .ok (.getfield 31, 3) := by decide +kernel
theorem dX6_findFits_125 : decode cX6_findFits 125 = .ok (.aload_n 0, 1) := by decide +kernel
theorem dX6_findFits_126 : decode cX6_findFits 126 = .ok (.getfield 22, 3) := by decide +kernel
theorem dX6_findFits_129 : decode cX6_findFits 129 = .ok (.sipush 252, 3) := by decide +kernel
theorem dX6_findFits_132 : decode cX6_findFits 132 = .ok (.imul, 1) := by decide +kernel
theorem dX6_findFits_133 : decode cX6_findFits 133 = .ok (.aload_n 0, 1) := by decide +kernel
theorem dX6_findFits_134 : decode cX6_findFits 134 = .ok (.getfield 34, 3) := by decide +kernel
theorem dX6_findFits_137 : decode cX6_findFits 137 = .ok (.aload_n 0, 1) := by decide +kernel
theorem dX6_findFits_138 : decode cX6_findFits 138 = .ok (.getfield 22, 3) := by decide +kernel
theorem dX6_findFits_141 : decode cX6_findFits 141 = .ok (.iaload, 1) := by decide +kernel
theorem dX6_findFits_142 : decode cX6_findFits 142 = .ok (.iadd, 1) := by decide +kernel
theorem dX6_findFits_143 : decode cX6_findFits 143 = .ok (.iload 5, 2) := by decide +kernel
theorem dX6_findFits_145 : decode cX6_findFits 145 = .ok (.iastore, 1) := by decide +kernel
theorem dX6_findFits_146 : decode cX6_findFits 146 = .ok (.aload_n 0, 1) := by decide +kernel
theorem dX6_findFits_147 : decode cX6_findFits 147 = .ok (.getfield 34, 3) := by decide +kernel
theorem dX6_findFits_150 : decode cX6_findFits 150 = .ok (.aload_n 0, 1) := by decide +kernel
theorem dX6_findFits_151 : decode cX6_findFits 151 = .ok (.getfield 22, 3) := by decide +kernel
theorem dX6_findFits_154 : decode cX6_findFits 154 = .ok (.dup2, 1) := by decide +kernel
theorem dX6_findFits_155 : decode cX6_findFits 155 = .ok (.iaload, 1) := by decide +kernel
theorem dX6_findFits_156 : decode cX6_findFits 156 = .ok (.iconst 1, 1) := by decide +kernel
theorem dX6_findFits_157 : decode cX6_findFits 157 = .ok (.iadd, 1) := by decide +kernel
theorem dX6_findFits_158 : decode cX6_findFits 158 = .ok (.iastore, 1) := by decide +kernel
theorem dX6_findFits_159 : decode cX6_findFits 159 = .ok (.aload_n 0, 1) := by decide +kernel
theorem dX6_findFits_160 : decode cX6_findFits 160 = .ok (.getfield 37, 3) := by decide +kernel
theorem dX6_findFits_163 : decode cX6_findFits 163 = .ok (.aload_n 0, 1) := by decide +kernel
theorem dX6_findFits_164 : decode cX6_findFits 164 = .ok (.getfield 22, 3) := by decide +kernel
theorem dX6_findFits_167 : decode cX6_findFits 167 = .ok (.aload_n 0, 1) := by decide +kernel
theorem dX6_findFits_168 : decode cX6_findFits 168 = .ok (.getfield 37, 3) := by decide +kernel
theorem dX6_findFits_171 : decode cX6_findFits 171 = .ok (.aload_n 0, 1) := by decide +kernel
theorem dX6_findFits_172 : decode cX6_findFits 172 = .ok (.getfield 22, 3) := by decide +kernel
theorem dX6_findFits_175 : decode cX6_findFits 175 = .ok (.iaload, 1) := by decide +kernel
theorem dX6_findFits_176 : decode cX6_findFits 176 = .ok (.iload 5, 2) := by decide +kernel
theorem dX6_findFits_178 : decode cX6_findFits 178 = .ok (.invokestatic 99, 3) := by decide +kernel
theorem dX6_findFits_181 : decode cX6_findFits 181 = .ok (.invokestatic 105, 3) := by decide +kernel
theorem dX6_findFits_184 : decode cX6_findFits 184 = .ok (.iastore, 1) := by decide +kernel
theorem dX6_findFits_185 : decode cX6_findFits 185 = .ok (.iinc 5 1, 3) := by decide +kernel
theorem dX6_findFits_188 : decode cX6_findFits 188 = .ok (.goto (-104), 3) := by decide +kernel
theorem dX6_findFits_191 : decode cX6_findFits 191 = .ok (.return_, 1) := by decide +kernel
set_option maxRecDepth 20000 in
set_option maxHeartbeats 4000000 in
theorem c_findFits (E : xE) (l : Launch) (a : Nat → Nat) (ws : va_W) (hW : WX (okX E a) ws) (t : Nat) (ht : tb t) (i0 : Nat) (hi0 : i0 ≤ 7) (z2 z3 : Nat) (zB : Int32) (hc92 : ws[92]? = some (ob (a 92) 5 [.ref (a 93), .ref (a 94), .int (nI z2), .int (nI z3), .ref (a 95), .ref (a 96), .ref (a 97), .ref (a 98), .ref (a 99), .ref (a 100), .ref (a 101), .ref (a 102), .int zB])) (hz2 : z2 ≤ 10) (hz3 : z3 ≤ 3) : xV E l yX6_findFits cX6_findFits 6 4 0 0 [.ref (a 92), .ref (a t), .ref (a 71), .int (nI i0)] ws (fun w => WX (okX E a) w ∧ keeps ws w (fun q => q = 94 ∨ (97 ≤ q ∧ q < 100) ∨ (71 ≤ q ∧ q < 79))) := by
  refine xV_start (lv := [(0, .ref (a 92)), (1, .ref (a t)), (2, .ref (a 71)), (3, .int (nI i0))]) RX6 (by decide) rfl (Nat.le_of_ble_eq_true rfl) rfl (fun p e s m below meth c A C hr hlk hin => ?_)
  have htb := tb_lo ht
  have kp0 : keeps ws ws (fun q => q = 94 ∨ (97 ≤ q ∧ q < 100) ∨ (71 ≤ q ∧ q < 79)) := keeps_rf
  refine x_aload_n C dX6_findFits_0 rfl 1 rfl rfl ?_
  obtain ⟨_, k1, n2, v4, v5, v6, v7, v8, bn3, rfl⟩ := hW (t + 0) _ (okX_t ht (j := 0) rfl)
  refine x_get C (ci := 8) (k := 5) t k1 rfl in_X9 (by decide) w_212 rfl dX6_findFits_1 rfl ?_
  obtain ⟨_, k9, v10, rfl⟩ := hW (t + 16) _ (okX_t ht (j := 16) rfl)
  refine x_get C (ci := 9) (k := 1) (t + 16) k9 rfl in_X10 (by decide) w_171 rfl dX6_findFits_4 rfl ?_
  refine x_iload_n C dX6_findFits_7 rfl 3 rfl rfl ?_
  obtain ⟨_, k11, f12, rfl⟩ := hW (t + 17) _ (okX_t ht (j := 17) rfl)
  refine x_iald C (v := (f12 (nI i0).toNatClampNeg)) (t + 17) k11 (vp_in_nI (by omega) (by decide)) rfl dX6_findFits_8 rfl ?_
  refine x_any (fun v13 => ?_)
  refine x_aload_n C dX6_findFits_9 rfl 1 rfl rfl ?_
  refine x_get C (ci := 8) (k := 5) t k1 rfl in_X9 (by decide) w_212 rfl dX6_findFits_10 rfl ?_
  refine x_get C (ci := 9) (k := 2) (t + 16) k9 rfl in_X10 (by decide) w_174 rfl dX6_findFits_13 rfl ?_
  refine x_iload_n C dX6_findFits_16 rfl 3 rfl rfl ?_
  obtain ⟨_, k14, f15, rfl⟩ := hW (t + 18) _ (okX_t ht (j := 18) rfl)
  refine x_iald C (v := (f15 (nI i0).toNatClampNeg)) (t + 18) k14 (vp_in_nI (by omega) (by decide)) rfl dX6_findFits_17 rfl ?_
  refine x_any (fun v16 => ?_)
  refine x_isub C (v := (v13 - v16)) dX6_findFits_18 rfl rfl ?_
  refine x_any (fun v17 => ?_)
  refine x_istore C (lv' := [(4, .int v17), (0, .ref (a 92)), (1, .ref (a t)), (2, .ref (a 71)), (3, .int (nI i0))]) dX6_findFits_19 (by decide) rfl rfl ?_
  refine x_iconst C (v := 0) dX6_findFits_21 (by decide) rfl ?_
  refine x_istore C (lv' := [(5, .int 0), (4, .int v17), (0, .ref (a 92)), (1, .ref (a t)), (2, .ref (a 71)), (3, .int (nI i0))]) dX6_findFits_22 (by decide) rfl rfl ?_
  have loop24 : ∀ (fu24 : Nat) (k : Nat) (wl24 : va_W), WX (okX E a) wl24 → 10 - k < fu24 → k ≤ 10 → keeps ws wl24 (fun q => q = 94 ∨ (97 ≤ q ∧ q < 100) ∨ (71 ≤ q ∧ q < 79)) → X E p l e (xRm 4 0 0) s m ([.ref (a 92), .ref (a t), .ref (a 71), .int (nI i0)] : List Value).toArray below meth c A 6 0 0 (MQ below (va_Qv (fun w => WX (okX E a) w ∧ keeps ws w (fun q => q = 94 ∨ (97 ≤ q ∧ q < 100) ∨ (71 ≤ q ∧ q < 79))) (xB E A) A) ([.ref (a 92), .ref (a t), .ref (a 71), .int (nI i0)] : List Value).toArray s 0 0 A) wl24 24 [(0, .ref (a 92)), (1, .ref (a t)), (2, .ref (a 71)), (3, .int (nI i0)), (4, .int v17), (5, .int (nI k))] [] := by
    intro fu24
    induction fu24 with
    | zero => intro k wl24 _ q; omega
    | succ fu24 ih24 =>
      intro k wl24 hWl24 me24 iv24_0 kq24
      have k18 : wl24[92]? = some (ob (a 92) 5 [.ref (a 93), .ref (a 94), .int (nI z2), .int (nI z3), .ref (a 95), .ref (a 96), .ref (a 97), .ref (a 98), .ref (a 99), .ref (a 100), .ref (a 101), .ref (a 102), .int zB]) := keeps_at kq24 hc92 (by first | decide | omega | (dsimp only; omega))
      refine x_iload C dX6_findFits_24 5 rfl rfl ?_
      refine x_aload_n C dX6_findFits_26 rfl 0 rfl rfl ?_
      refine x_get C (ci := 5) (k := 2) 92 k18 rfl in_X6 (by decide) w_322 rfl dX6_findFits_27 rfl ?_
      refine x_icmp_ge C (tgt := 60) dX6_findFits_30 (by decide) rfl (fun c19 => ?_) (fun c19 => ?_)
      · skip
        have nf20 := nI_le' (a := z2) (b := k) c19 (by omega) (by omega)
        refine x_aload_n C dX6_findFits_60 rfl 0 rfl rfl ?_
        refine x_get C (ci := 5) (k := 7) 92 k18 rfl in_X6 (by decide) w_327 rfl dX6_findFits_61 rfl ?_
        refine x_aload_n C dX6_findFits_64 rfl 0 rfl rfl ?_
        refine x_get C (ci := 5) (k := 3) 92 k18 rfl in_X6 (by decide) w_323 rfl dX6_findFits_65 rfl ?_
        refine x_iconst C (v := 0) dX6_findFits_68 (by decide) rfl ?_
        obtain ⟨_, k21, g22, gb23, rfl⟩ := hWl24 98 _ rfl
        have gb24 := updn_le (i := z3) (v := 0) gb23 (by omega)
        obtain ⟨w25, hw26⟩ : ∃ w : va_W, w = List.set wl24 98 (iA E (a 98) 4 (upd (fun j => nI (g22 j)) z3 (nI 0))) := ⟨_, rfl⟩
        refine x_iask C z3 (nI_clamp (by omega)) (nI_pos (by omega)) (by omega) 98 k21 hw26.symm dX6_findFits_69 rfl ?_
        have hW27 : WX (okX E a) w25 := by rw [hw26]; exact hWl24.set (k := 98) rfl ⟨_, gb24, iA_n (upd_nI g22 z3 0)⟩
        have k28 : w25[92]? = some (ob (a 92) 5 [.ref (a 93), .ref (a 94), .int (nI z2), .int (nI z3), .ref (a 95), .ref (a 96), .ref (a 97), .ref (a 98), .ref (a 99), .ref (a 100), .ref (a 101), .ref (a 102), .int zB]) := by rw [hw26]; exact set_ne k18 (by decide)
        have k29 : w25[98]? = some (iA E (a 98) 4 (upd (fun j => nI (g22 j)) z3 (nI 0))) := by rw [hw26]; exact set_eq k21
        have kp30 := keeps_set kq24 hw26 (by first | exact rfl | decide | omega | (dsimp only; omega))
        have k31 : w25[98]? = some (iA E (a 98) 4 (fun j => nI ((updn g22 z3 0) j))) := by rw [← upd_nI]; exact k29
        refine x_aload_n C dX6_findFits_70 rfl 0 rfl rfl ?_
        refine x_get C (ci := 5) (k := 8) 92 k28 rfl in_X6 (by decide) w_328 rfl dX6_findFits_71 rfl ?_
        refine x_aload_n C dX6_findFits_74 rfl 0 rfl rfl ?_
        refine x_get C (ci := 5) (k := 3) 92 k28 rfl in_X6 (by decide) w_323 rfl dX6_findFits_75 rfl ?_
        refine x_bipush C (v := 11) dX6_findFits_78 (by decide) rfl ?_
        obtain ⟨_, k32, g33, gb34, rfl⟩ := hW27 99 _ rfl
        have gb35 := updn_le (i := z3) (v := 11) gb34 (by omega)
        obtain ⟨w36, hw37⟩ : ∃ w : va_W, w = List.set w25 99 (iA E (a 99) 4 (upd (fun j => nI (g33 j)) z3 (nI 11))) := ⟨_, rfl⟩
        refine x_iask C z3 (nI_clamp (by omega)) (nI_pos (by omega)) (by omega) 99 k32 hw37.symm dX6_findFits_80 rfl ?_
        have hW38 : WX (okX E a) w36 := by rw [hw37]; exact hW27.set (k := 99) rfl ⟨_, gb35, iA_n (upd_nI g33 z3 11)⟩
        have k39 : w36[92]? = some (ob (a 92) 5 [.ref (a 93), .ref (a 94), .int (nI z2), .int (nI z3), .ref (a 95), .ref (a 96), .ref (a 97), .ref (a 98), .ref (a 99), .ref (a 100), .ref (a 101), .ref (a 102), .int zB]) := by rw [hw37]; exact set_ne k28 (by decide)
        have k40 : w36[98]? = some (iA E (a 98) 4 (fun j => nI ((updn g22 z3 0) j))) := by rw [hw37]; exact set_ne k31 (by decide)
        have k41 : w36[99]? = some (iA E (a 99) 4 (upd (fun j => nI (g33 j)) z3 (nI 11))) := by rw [hw37]; exact set_eq k32
        have kp42 := keeps_set kp30 hw37 (by first | exact rfl | decide | omega | (dsimp only; omega))
        have k43 : w36[99]? = some (iA E (a 99) 4 (fun j => nI ((updn g33 z3 11) j))) := by rw [← upd_nI]; exact k41
        refine x_iconst C (v := 1) dX6_findFits_81 (by decide) rfl ?_
        refine x_istore C (lv' := [(5, .int 1), (0, .ref (a 92)), (1, .ref (a t)), (2, .ref (a 71)), (3, .int (nI i0)), (4, .int v17)]) dX6_findFits_82 (by decide) rfl rfl ?_
        have loop84 : ∀ (fu84 : Nat) (b : Nat) (wl84 : va_W), WX (okX E a) wl84 → 1024 - b < fu84 → 1 ≤ b ∧ b ≤ 1024 → keeps ws wl84 (fun q => q = 94 ∨ (97 ≤ q ∧ q < 100) ∨ (71 ≤ q ∧ q < 79)) → X E p l e (xRm 4 0 0) s m ([.ref (a 92), .ref (a t), .ref (a 71), .int (nI i0)] : List Value).toArray below meth c A 6 0 0 (MQ below (va_Qv (fun w => WX (okX E a) w ∧ keeps ws w (fun q => q = 94 ∨ (97 ≤ q ∧ q < 100) ∨ (71 ≤ q ∧ q < 79))) (xB E A) A) ([.ref (a 92), .ref (a t), .ref (a 71), .int (nI i0)] : List Value).toArray s 0 0 A) wl84 84 [(0, .ref (a 92)), (1, .ref (a t)), (2, .ref (a 71)), (3, .int (nI i0)), (4, .int v17), (5, .int (nI b))] [] := by
          intro fu84
          induction fu84 with
          | zero => intro b wl84 _ q; omega
          | succ fu84 ih84 =>
            intro b wl84 hWl84 me84 iv84_0 kq84
            have k44 : wl84[92]? = some (ob (a 92) 5 [.ref (a 93), .ref (a 94), .int (nI z2), .int (nI z3), .ref (a 95), .ref (a 96), .ref (a 97), .ref (a 98), .ref (a 99), .ref (a 100), .ref (a 101), .ref (a 102), .int zB]) := keeps_at kq84 hc92 (by first | decide | omega | (dsimp only; omega))
            refine x_iload C dX6_findFits_84 5 rfl rfl ?_
            refine x_iconst C (v := 1) dX6_findFits_86 (by decide) rfl ?_
            refine x_aload_n C dX6_findFits_87 rfl 0 rfl rfl ?_
            refine x_get C (ci := 5) (k := 2) 92 k44 rfl in_X6 (by decide) w_322 rfl dX6_findFits_88 rfl ?_
            obtain ⟨z45, hz46, ez47⟩ := shm_low (n := z2) (by omega)
            refine x_ishl C (v := (nI z45)) dX6_findFits_91 ez47 rfl ?_
            refine x_icmp_ge C (tgt := 191) dX6_findFits_92 (by decide) rfl (fun c48 => ?_) (fun c48 => ?_)
            · skip
              have nf49 := nI_le' (a := z45) (b := b) c48 (by omega) (by omega)
              exact x_vret C hr hlk dX6_findFits_191 ⟨hWl84, kq84⟩
            · skip
              have nf50 := nI_nle' (a := z45) (b := b) c48 (by omega) (by omega)
              refine x_aload_n C dX6_findFits_95 rfl 0 rfl rfl ?_
              refine x_iload C dX6_findFits_96 5 rfl rfl ?_
              refine x_iload C dX6_findFits_98 4 rfl rfl ?_
              refine x_vi C (As := [.int (nI b), .int v17]) (rest := []) (c_isFit E l a wl84 hWl84 ((nI b)) v17) mf_X6_isFit w_921 92 k44 rfl rfl rfl (Nat.le_of_ble_eq_true rfl) ⟨(Nat.le_of_ble_eq_true rfl), (Nat.le_of_ble_eq_true rfl)⟩ ⟨(Nat.le_of_ble_eq_true rfl), (Nat.le_of_ble_eq_true rfl)⟩ dX6_findFits_100 rfl (fun r52 w53 h51 => ?_)
              obtain ⟨hW54, zb55⟩ := h51
              refine x_ws hW54 ?_
              refine x_if_eq C (tgt := 185) dX6_findFits_103 (by decide) rfl (fun c56 => ?_) (fun c56 => ?_)
              · skip
                refine x_iinc C (v := (nI (b + 1))) (lv' := [(5, .int (nI (b + 1))), (0, .ref (a 92)), (1, .ref (a t)), (2, .ref (a 71)), (3, .int (nI i0)), (4, .int v17)]) dX6_findFits_185 5 rfl (nI_add b 1) (by decide) rfl rfl ?_
                refine x_goto C (tgt := 84) dX6_findFits_188 (by decide) ?_
                refine x_lv (lv1 := [(0, .ref (a 92)), (1, .ref (a t)), (2, .ref (a 71)), (3, .int (nI i0)), (4, .int v17), (5, .int (nI (b + 1)))]) [1, 2, 3, 4, 5, 0] rfl ?_
                exact ih84 (b + 1) wl84 hWl84 (by omega) (by omega) kq84
              · skip
                refine x_aload_n C dX6_findFits_106 rfl 0 rfl rfl ?_
                refine x_get C (ci := 5) (k := 7) 92 k44 rfl in_X6 (by decide) w_327 rfl dX6_findFits_107 rfl ?_
                refine x_aload_n C dX6_findFits_110 rfl 0 rfl rfl ?_
                refine x_get C (ci := 5) (k := 3) 92 k44 rfl in_X6 (by decide) w_323 rfl dX6_findFits_111 rfl ?_
                obtain ⟨_, k57, g58, gb59, rfl⟩ := hWl84 98 _ rfl
                refine x_ialk C (v := nI (g58 z3)) z3 (nI_clamp (by omega)) (nI_pos (by omega)) (by omega) 98 k57 rfl dX6_findFits_114 rfl ?_
                have bx60 := gb59 z3
                refine x_sipush C (v := 252) dX6_findFits_115 (by decide) rfl ?_
                refine x_icmp_ge C (tgt := 185) dX6_findFits_118 (by decide) rfl (fun c61 => ?_) (fun c61 => ?_)
                · skip
                  have nf62 := nI_le' (a := 252) (b := (g58 z3)) c61 (by omega) (by omega)
                  refine x_iinc C (v := (nI (b + 1))) (lv' := [(5, .int (nI (b + 1))), (0, .ref (a 92)), (1, .ref (a t)), (2, .ref (a 71)), (3, .int (nI i0)), (4, .int v17)]) dX6_findFits_185 5 rfl (nI_add b 1) (by decide) rfl rfl ?_
                  refine x_goto C (tgt := 84) dX6_findFits_188 (by decide) ?_
                  refine x_lv (lv1 := [(0, .ref (a 92)), (1, .ref (a t)), (2, .ref (a 71)), (3, .int (nI i0)), (4, .int v17), (5, .int (nI (b + 1)))]) [1, 2, 3, 4, 5, 0] rfl ?_
                  exact ih84 (b + 1) wl84 hWl84 (by omega) (by omega) kq84
                · skip
                  have nf63 := nI_nle' (a := 252) (b := (g58 z3)) c61 (by omega) (by omega)
                  refine x_aload_n C dX6_findFits_121 rfl 0 rfl rfl ?_
                  refine x_get C (ci := 5) (k := 6) 92 k44 rfl in_X6 (by decide) w_326 rfl dX6_findFits_122 rfl ?_
                  refine x_aload_n C dX6_findFits_125 rfl 0 rfl rfl ?_
                  refine x_get C (ci := 5) (k := 3) 92 k44 rfl in_X6 (by decide) w_323 rfl dX6_findFits_126 rfl ?_
                  refine x_sipush C (v := 252) dX6_findFits_129 (by decide) rfl ?_
                  refine x_imul C (v := (nI (z3 * 252))) dX6_findFits_132 (pk_mul z3 252) rfl ?_
                  refine x_aload_n C dX6_findFits_133 rfl 0 rfl rfl ?_
                  refine x_get C (ci := 5) (k := 7) 92 k44 rfl in_X6 (by decide) w_327 rfl dX6_findFits_134 rfl ?_
                  refine x_aload_n C dX6_findFits_137 rfl 0 rfl rfl ?_
                  refine x_get C (ci := 5) (k := 3) 92 k44 rfl in_X6 (by decide) w_323 rfl dX6_findFits_138 rfl ?_
                  refine x_ialk C (v := nI (g58 z3)) z3 (nI_clamp (by omega)) (nI_pos (by omega)) (by omega) 98 k57 rfl dX6_findFits_141 rfl ?_
                  have bx64 := gb59 z3
                  refine x_iadd C (v := (nI ((z3 * 252) + (g58 z3)))) dX6_findFits_142 (nI_add (z3 * 252) (g58 z3)) rfl ?_
                  refine x_iload C dX6_findFits_143 5 rfl rfl ?_
                  obtain ⟨_, k65, f66, rfl⟩ := hWl84 97 _ rfl
                  obtain ⟨w67, hw68⟩ : ∃ w : va_W, w = List.set wl84 97 (iA E (a 97) 1008 (upd f66 (nI ((z3 * 252) + (g58 z3))).toNatClampNeg (nI b))) := ⟨_, rfl⟩
                  refine x_iast C 97 k65 (vp_in_nI (by omega) (by decide)) hw68.symm dX6_findFits_145 rfl ?_
                  have hW69 : WX (okX E a) w67 := by rw [hw68]; exact hWl84.set (k := 97) rfl ⟨_, rfl⟩
                  have k70 : w67[92]? = some (ob (a 92) 5 [.ref (a 93), .ref (a 94), .int (nI z2), .int (nI z3), .ref (a 95), .ref (a 96), .ref (a 97), .ref (a 98), .ref (a 99), .ref (a 100), .ref (a 101), .ref (a 102), .int zB]) := by rw [hw68]; exact set_ne k44 (by decide)
                  have k71 : w67[98]? = some (iA E (a 98) 4 (fun j => nI (g58 j))) := by rw [hw68]; exact set_ne k57 (by decide)
                  have k72 : w67[97]? = some (iA E (a 97) 1008 (upd f66 (nI ((z3 * 252) + (g58 z3))).toNatClampNeg (nI b))) := by rw [hw68]; exact set_eq k65
                  have kp73 := keeps_set kq84 hw68 (by first | exact rfl | decide | omega | (dsimp only; omega))
                  refine x_aload_n C dX6_findFits_146 rfl 0 rfl rfl ?_
                  refine x_get C (ci := 5) (k := 7) 92 k70 rfl in_X6 (by decide) w_327 rfl dX6_findFits_147 rfl ?_
                  refine x_aload_n C dX6_findFits_150 rfl 0 rfl rfl ?_
                  refine x_get C (ci := 5) (k := 3) 92 k70 rfl in_X6 (by decide) w_323 rfl dX6_findFits_151 rfl ?_
                  refine x_dup2 C dX6_findFits_154 rfl rfl rfl ?_
                  refine x_ialk C (v := nI (g58 z3)) z3 (nI_clamp (by omega)) (nI_pos (by omega)) (by omega) 98 k71 rfl dX6_findFits_155 rfl ?_
                  have bx74 := gb59 z3
                  refine x_iconst C (v := 1) dX6_findFits_156 (by decide) rfl ?_
                  refine x_iadd C (v := (nI ((g58 z3) + 1))) dX6_findFits_157 (nI_add (g58 z3) 1) rfl ?_
                  have gb75 := updn_le (i := z3) (v := ((g58 z3) + 1)) gb59 (by omega)
                  obtain ⟨w76, hw77⟩ : ∃ w : va_W, w = List.set w67 98 (iA E (a 98) 4 (upd (fun j => nI (g58 j)) z3 (nI ((g58 z3) + 1)))) := ⟨_, rfl⟩
                  refine x_iask C z3 (nI_clamp (by omega)) (nI_pos (by omega)) (by omega) 98 k71 hw77.symm dX6_findFits_158 rfl ?_
                  have hW78 : WX (okX E a) w76 := by rw [hw77]; exact hW69.set (k := 98) rfl ⟨_, gb75, iA_n (upd_nI g58 z3 ((g58 z3) + 1))⟩
                  have k79 : w76[92]? = some (ob (a 92) 5 [.ref (a 93), .ref (a 94), .int (nI z2), .int (nI z3), .ref (a 95), .ref (a 96), .ref (a 97), .ref (a 98), .ref (a 99), .ref (a 100), .ref (a 101), .ref (a 102), .int zB]) := by rw [hw77]; exact set_ne k70 (by decide)
                  have k80 : w76[98]? = some (iA E (a 98) 4 (upd (fun j => nI (g58 j)) z3 (nI ((g58 z3) + 1)))) := by rw [hw77]; exact set_eq k71
                  have k81 : w76[97]? = some (iA E (a 97) 1008 (upd f66 (nI ((z3 * 252) + (g58 z3))).toNatClampNeg (nI b))) := by rw [hw77]; exact set_ne k72 (by decide)
                  have kp82 := keeps_set kp73 hw77 (by first | exact rfl | decide | omega | (dsimp only; omega))
                  have k83 : w76[98]? = some (iA E (a 98) 4 (fun j => nI ((updn g58 z3 ((g58 z3) + 1)) j))) := by rw [← upd_nI]; exact k80
                  refine x_aload_n C dX6_findFits_159 rfl 0 rfl rfl ?_
                  refine x_get C (ci := 5) (k := 8) 92 k79 rfl in_X6 (by decide) w_328 rfl dX6_findFits_160 rfl ?_
                  refine x_aload_n C dX6_findFits_163 rfl 0 rfl rfl ?_
                  refine x_get C (ci := 5) (k := 3) 92 k79 rfl in_X6 (by decide) w_323 rfl dX6_findFits_164 rfl ?_
                  refine x_aload_n C dX6_findFits_167 rfl 0 rfl rfl ?_
                  refine x_get C (ci := 5) (k := 8) 92 k79 rfl in_X6 (by decide) w_328 rfl dX6_findFits_168 rfl ?_
                  refine x_aload_n C dX6_findFits_171 rfl 0 rfl rfl ?_
                  refine x_get C (ci := 5) (k := 3) 92 k79 rfl in_X6 (by decide) w_323 rfl dX6_findFits_172 rfl ?_
                  obtain ⟨_, k84, g85, gb86, rfl⟩ := hW78 99 _ rfl
                  refine x_ialk C (v := nI (g85 z3)) z3 (nI_clamp (by omega)) (nI_pos (by omega)) (by omega) 99 k84 rfl dX6_findFits_175 rfl ?_
                  have bx87 := gb86 z3
                  refine x_iload C dX6_findFits_176 5 rfl rfl ?_
                  refine x_si C (As := [.int (nI b)]) (rest := [.int (nI (g85 z3)), .int (nI z3), .ref (a 99)]) (c_bitCount E l a w76 hW78 ((nI b))) mf_J6_bitCount_0f7a4 w_926 rfl rfl (Nat.le_of_ble_eq_true rfl) ⟨(Nat.le_of_ble_eq_true rfl), (Nat.le_of_ble_eq_true rfl)⟩ ⟨(Nat.le_of_ble_eq_true rfl), (Nat.le_of_ble_eq_true rfl)⟩ dX6_findFits_178 rfl (fun r89 w90 h88 => ?_)
                  obtain ⟨hW91, x92⟩ := h88
                  refine x_ws hW91 ?_
                  obtain ⟨kk93, hk94, ek95⟩ := bc_cnt (i := b) (by omega)
                  refine x_top (x92.trans ek95) ?_
                  refine x_mmin C (v := (if (nI kk93) < (nI (g85 z3)) then (nI kk93) else (nI (g85 z3)))) w_925 w_561 w_16 w_562 (Nat.le_of_ble_eq_true rfl) (Nat.le_of_ble_eq_true rfl) (Nat.le_of_ble_eq_true rfl) (Nat.le_of_ble_eq_true rfl) rfl dX6_findFits_181 rfl ?_
                  have hm96 := min_le2 (g85 z3) kk93
                  refine x_top (v := nI (if kk93 < (g85 z3) then kk93 else (g85 z3))) (mmin_n (g85 z3) kk93 (by omega) (by omega)) ?_
                  obtain ⟨mq97, mqe98⟩ : ∃ z : Nat, z = (if kk93 < (g85 z3) then kk93 else (g85 z3)) := ⟨_, rfl⟩
                  rw [← mqe98] at hm96 ⊢
                  have gb99 := updn_le (i := z3) (v := mq97) gb86 (by omega)
                  obtain ⟨w100, hw101⟩ : ∃ w : va_W, w = List.set w76 99 (iA E (a 99) 4 (upd (fun j => nI (g85 j)) z3 (nI mq97))) := ⟨_, rfl⟩
                  refine x_iask C z3 (nI_clamp (by omega)) (nI_pos (by omega)) (by omega) 99 k84 hw101.symm dX6_findFits_184 rfl ?_
                  have hW102 : WX (okX E a) w100 := by rw [hw101]; exact hW78.set (k := 99) rfl ⟨_, gb99, iA_n (upd_nI g85 z3 mq97)⟩
                  have k103 : w100[92]? = some (ob (a 92) 5 [.ref (a 93), .ref (a 94), .int (nI z2), .int (nI z3), .ref (a 95), .ref (a 96), .ref (a 97), .ref (a 98), .ref (a 99), .ref (a 100), .ref (a 101), .ref (a 102), .int zB]) := by rw [hw101]; exact set_ne k79 (by decide)
                  have k104 : w100[98]? = some (iA E (a 98) 4 (fun j => nI ((updn g58 z3 ((g58 z3) + 1)) j))) := by rw [hw101]; exact set_ne k83 (by decide)
                  have k105 : w100[97]? = some (iA E (a 97) 1008 (upd f66 (nI ((z3 * 252) + (g58 z3))).toNatClampNeg (nI b))) := by rw [hw101]; exact set_ne k81 (by decide)
                  have k106 : w100[99]? = some (iA E (a 99) 4 (upd (fun j => nI (g85 j)) z3 (nI mq97))) := by rw [hw101]; exact set_eq k84
                  have kp107 := keeps_set kp82 hw101 (by first | exact rfl | decide | omega | (dsimp only; omega))
                  have k108 : w100[99]? = some (iA E (a 99) 4 (fun j => nI ((updn g85 z3 mq97) j))) := by rw [← upd_nI]; exact k106
                  refine x_iinc C (v := (nI (b + 1))) (lv' := [(5, .int (nI (b + 1))), (0, .ref (a 92)), (1, .ref (a t)), (2, .ref (a 71)), (3, .int (nI i0)), (4, .int v17)]) dX6_findFits_185 5 rfl (nI_add b 1) (by decide) rfl rfl ?_
                  refine x_goto C (tgt := 84) dX6_findFits_188 (by decide) ?_
                  refine x_lv (lv1 := [(0, .ref (a 92)), (1, .ref (a t)), (2, .ref (a 71)), (3, .int (nI i0)), (4, .int v17), (5, .int (nI (b + 1)))]) [1, 2, 3, 4, 5, 0] rfl ?_
                  exact ih84 (b + 1) w100 hW102 (by omega) (by omega) kp107
        refine x_lv (lv1 := [(0, .ref (a 92)), (1, .ref (a t)), (2, .ref (a 71)), (3, .int (nI i0)), (4, .int v17), (5, .int 1)]) [1, 2, 3, 4, 5, 0] rfl ?_
        exact loop84 _ 1 w36 hW38 (Nat.lt_succ_self _) (by omega) kp42
      · skip
        have nf109 := nI_nle' (a := z2) (b := k) c19 (by omega) (by omega)
        refine x_aload_n C dX6_findFits_33 rfl 0 rfl rfl ?_
        refine x_get C (ci := 5) (k := 1) 92 k18 rfl in_X6 (by decide) w_321 rfl dX6_findFits_34 rfl ?_
        refine x_iload C dX6_findFits_37 5 rfl rfl ?_
        refine x_aload_n C dX6_findFits_39 rfl 2 rfl rfl ?_
        refine x_iconst C (v := 5) dX6_findFits_40 (by decide) rfl ?_
        refine x_aload_n C dX6_findFits_41 rfl 1 rfl rfl ?_
        refine x_aload_n C dX6_findFits_42 rfl 0 rfl rfl ?_
        refine x_get C (ci := 5) (k := 0) 92 k18 rfl in_X6 (by decide) w_320 rfl dX6_findFits_43 rfl ?_
        refine x_iload C dX6_findFits_46 5 rfl rfl ?_
        obtain ⟨_, k110, g111, gb112, rfl⟩ := hWl24 93 _ rfl
        refine x_ialk C (v := nI (g111 k)) k (nI_clamp (by omega)) (nI_pos (by omega)) (by omega) 93 k110 rfl dX6_findFits_48 rfl ?_
        have bx113 := gb112 k
        refine x_iload_n C dX6_findFits_49 rfl 3 rfl rfl ?_
        obtain ⟨_, k114, v115, n116, n118, bn117, bn119, rfl⟩ := hWl24 71 _ rfl
        refine x_vi C (As := [.int 5, .ref (a t), .int (nI (g111 k)), .int (nI i0)]) (rest := [.int (nI k), .ref (a 94)]) (c_ofEgg E l a wl24 hWl24 t ht 5 (g111 k) ((nI i0)) (by omega) (by omega)) mf_X3_ofEgg w_920 71 k114 rfl rfl rfl (Nat.le_of_ble_eq_true rfl) ⟨(Nat.le_of_ble_eq_true rfl), (Nat.le_of_ble_eq_true rfl)⟩ ⟨(Nat.le_of_ble_eq_true rfl), (Nat.le_of_ble_eq_true rfl)⟩ dX6_findFits_50 rfl (fun r121 w122 h120 => ?_)
        obtain ⟨hW123, kq124⟩ := h120
        have k125 : w122[92]? = some (ob (a 92) 5 [.ref (a 93), .ref (a 94), .int (nI z2), .int (nI z3), .ref (a 95), .ref (a 96), .ref (a 97), .ref (a 98), .ref (a 99), .ref (a 100), .ref (a 101), .ref (a 102), .int zB]) := keeps_at kq124 k18 (by first | decide | omega | (dsimp only; omega))
        have k126 : w122[93]? = some (iA E (a 93) 10 (fun j => nI (g111 j))) := keeps_at kq124 k110 (by first | decide | omega | (dsimp only; omega))
        have kp127 := keeps_tr kq24 kq124 (fun q hq => by first | omega | (dsimp only at *; omega))
        obtain ⟨_, k128, f129, rfl⟩ := hW123 94 _ rfl
        obtain ⟨w130, hw131⟩ : ∃ w : va_W, w = List.set w122 94 (iA E (a 94) 10 (upd f129 (nI k).toNatClampNeg r121)) := ⟨_, rfl⟩
        refine x_iast C 94 k128 (vp_in_nI (by omega) (by decide)) hw131.symm dX6_findFits_53 rfl ?_
        have hW132 : WX (okX E a) w130 := by rw [hw131]; exact hW123.set (k := 94) rfl ⟨_, rfl⟩
        have k133 : w130[92]? = some (ob (a 92) 5 [.ref (a 93), .ref (a 94), .int (nI z2), .int (nI z3), .ref (a 95), .ref (a 96), .ref (a 97), .ref (a 98), .ref (a 99), .ref (a 100), .ref (a 101), .ref (a 102), .int zB]) := by rw [hw131]; exact set_ne k125 (by decide)
        have k134 : w130[93]? = some (iA E (a 93) 10 (fun j => nI (g111 j))) := by rw [hw131]; exact set_ne k126 (by decide)
        have k135 : w130[94]? = some (iA E (a 94) 10 (upd f129 (nI k).toNatClampNeg r121)) := by rw [hw131]; exact set_eq k128
        have kp136 := keeps_set kp127 hw131 (by first | exact rfl | decide | omega | (dsimp only; omega))
        refine x_iinc C (v := (nI (k + 1))) (lv' := [(5, .int (nI (k + 1))), (0, .ref (a 92)), (1, .ref (a t)), (2, .ref (a 71)), (3, .int (nI i0)), (4, .int v17)]) dX6_findFits_54 5 rfl (nI_add k 1) (by decide) rfl rfl ?_
        refine x_goto C (tgt := 24) dX6_findFits_57 (by decide) ?_
        refine x_lv (lv1 := [(0, .ref (a 92)), (1, .ref (a t)), (2, .ref (a 71)), (3, .int (nI i0)), (4, .int v17), (5, .int (nI (k + 1)))]) [1, 2, 3, 4, 5, 0] rfl ?_
        exact ih24 (k + 1) w130 hW132 (by omega) (by omega) kp136
  refine x_lv (lv1 := [(0, .ref (a 92)), (1, .ref (a t)), (2, .ref (a 71)), (3, .int (nI i0)), (4, .int v17), (5, .int 0)]) [2, 3, 4, 5, 1, 0] rfl ?_
  exact loop24 _ 0 ws hW (Nat.lt_succ_self _) (by omega) kp0
theorem dX6_findHopes_0 : decode cX6_findHopes 0 = .ok (.iconst 0, 1) := by decide +kernel
theorem dX6_findHopes_1 : decode cX6_findHopes 1 = .ok (.istore_n 1, 1) := by decide +kernel
theorem dX6_findHopes_2 : decode cX6_findHopes 2 = .ok (.iload_n 1, 1) := by decide +kernel
theorem dX6_findHopes_3 : decode cX6_findHopes 3 = .ok (.bipush 10, 2) := by decide +kernel
theorem dX6_findHopes_5 : decode cX6_findHopes 5 = .ok (.if_icmp .gt 114, 3) := by decide +kernel
theorem dX6_findHopes_8 : decode cX6_findHopes 8 = .ok (.aload_n 0, 1) := by decide +kernel
theorem dX6_findHopes_9 : decode cX6_findHopes 9 = .ok (.getfield 40, 3) := by decide +kernel
theorem dX6_findHopes_12 : decode cX6_findHopes 12 = .ok (.aload_n 0, 1) := by decide +kernel
theorem dX6_findHopes_13 : decode cX6_findHopes 13 = .ok (.getfield 22, 3) := by decide +kernel
theorem dX6_findHopes_16 : decode cX6_findHopes 16 = .ok (.bipush 11, 2) := by decide +kernel
theorem dX6_findHopes_18 : decode cX6_findHopes 18 = .ok (.imul, 1) := by decide +kernel
theorem dX6_findHopes_19 : decode cX6_findHopes 19 = .ok (.iload_n 1, 1) := by decide +kernel
theorem dX6_findHopes_20 : decode cX6_findHopes 20 = .ok (.iadd, 1) := by decide +kernel
theorem dX6_findHopes_21 : decode cX6_findHopes 21 = .ok (.iconst 0, 1) := by decide +kernel
theorem dX6_findHopes_22 : decode cX6_findHopes 22 = .ok (.iastore, 1) := by decide +kernel
theorem dX6_findHopes_23 : decode cX6_findHopes 23 = .ok (.aload_n 0, 1) := by decide +kernel
theorem dX6_findHopes_24 : decode cX6_findHopes 24 = .ok (.getfield 22, 3) := by decide +kernel
theorem dX6_findHopes_27 : decode cX6_findHopes 27 = .ok (.iconst 1, 1) := by decide +kernel
theorem dX6_findHopes_28 : decode cX6_findHopes 28 = .ok (.isub, 1) := by decide +kernel
theorem dX6_findHopes_29 : decode cX6_findHopes 29 = .ok (.istore_n 2, 1) := by decide +kernel
theorem dX6_findHopes_30 : decode cX6_findHopes 30 = .ok (.iload_n 2, 1) := by decide +kernel
theorem dX6_findHopes_31 : decode cX6_findHopes 31 = .ok (.ifCond .lt 82, 3) := by decide +kernel
theorem dX6_findHopes_34 : decode cX6_findHopes 34 = .ok (.iload_n 2, 1) := by decide +kernel
theorem dX6_findHopes_35 : decode cX6_findHopes 35 = .ok (.iconst 1, 1) := by decide +kernel
theorem dX6_findHopes_36 : decode cX6_findHopes 36 = .ok (.iadd, 1) := by decide +kernel
theorem dX6_findHopes_37 : decode cX6_findHopes 37 = .ok (.bipush 11, 2) := by decide +kernel
theorem dX6_findHopes_39 : decode cX6_findHopes 39 = .ok (.imul, 1) := by decide +kernel
theorem dX6_findHopes_40 : decode cX6_findHopes 40 = .ok (.istore_n 3, 1) := by decide +kernel
theorem dX6_findHopes_41 : decode cX6_findHopes 41 = .ok (.iload_n 1, 1) := by decide +kernel
theorem dX6_findHopes_42 : decode cX6_findHopes 42 = .ok (.aload_n 0, 1) := by decide +kernel
theorem dX6_findHopes_43 : decode cX6_findHopes 43 = .ok (.getfield 37, 3) := by decide +kernel
theorem dX6_findHopes_46 : decode cX6_findHopes 46 = .ok (.iload_n 2, 1) := by decide +kernel
theorem dX6_findHopes_47 : decode cX6_findHopes 47 = .ok (.iaload, 1) := by decide +kernel
theorem dX6_findHopes_48 : decode cX6_findHopes 48 = .ok (.isub, 1) := by decide +kernel
theorem dX6_findHopes_49 : decode cX6_findHopes 49 = .ok (.istore 4, 2) := by decide +kernel
theorem dX6_findHopes_51 : decode cX6_findHopes 51 = .ok (.iload 4, 2) := by decide +kernel
theorem dX6_findHopes_53 : decode cX6_findHopes 53 = .ok (.ifCond .ge 7, 3) := by decide +kernel
theorem dX6_findHopes_56 : decode cX6_findHopes 56 = .ok (.iconst 0, 1) := by decide +kernel
theorem dX6_findHopes_57 : decode cX6_findHopes 57 = .ok (.goto 24, 3) := by decide +kernel
theorem dX6_findHopes_60 : decode cX6_findHopes 60 = .ok (.aload_n 0, 1) := by decide +kernel
theorem dX6_findHopes_61 : decode cX6_findHopes 61 = .ok (.iload_n 2, 1) := by decide +kernel
theorem dX6_findHopes_62 : decode cX6_findHopes 62 = .ok (.aload_n 0, 1) := by decide +kernel
theorem dX6_findHopes_63 : decode cX6_findHopes 63 = .ok (.getfield 37, 3) := by decide +kernel
theorem dX6_findHopes_66 : decode cX6_findHopes 66 = .ok (.iload_n 2, 1) := by decide +kernel
theorem dX6_findHopes_67 : decode cX6_findHopes 67 = .ok (.iaload, 1) := by decide +kernel
theorem dX6_findHopes_68 : decode cX6_findHopes 68 = .ok (.invokevirtual 111, 3) := by decide +kernel
theorem dX6_findHopes_71 : decode cX6_findHopes 71 = .ok (.aload_n 0, 1) := by decide +kernel
theorem dX6_findHopes_72 : decode cX6_findHopes 72 = .ok (.getfield 40, 3) := by decide +kernel
theorem dX6_findHopes_75 : decode cX6_findHopes 75 = .ok (.iload_n 3, 1) := by decide +kernel
theorem dX6_findHopes_76 : decode cX6_findHopes 76 = .ok (.iload 4, 2) := by decide +kernel
theorem dX6_findHopes_78 : decode cX6_findHopes 78 = .ok (.iadd, 1) := by decide +kernel
theorem dX6_findHopes_79 : decode cX6_findHopes 79 = .ok (.iaload, 1) := by decide +kernel
theorem dX6_findHopes_80 : decode cX6_findHopes 80 = .ok (.iadd, 1) := by decide +kernel
theorem dX6_findHopes_81 : decode cX6_findHopes 81 = .ok (.istore 5, 2) := by decide +kernel
theorem dX6_findHopes_83 : decode cX6_findHopes 83 = .ok (.aload_n 0, 1) := by decide +kernel
theorem dX6_findHopes_84 : decode cX6_findHopes 84 = .ok (.getfield 40, 3) := by decide +kernel
theorem dX6_findHopes_87 : decode cX6_findHopes 87 = .ok (.iload_n 2, 1) := by decide +kernel
theorem dX6_findHopes_88 : decode cX6_findHopes 88 = .ok (.bipush 11, 2) := by decide +kernel
theorem dX6_findHopes_90 : decode cX6_findHopes 90 = .ok (.imul, 1) := by decide +kernel
theorem dX6_findHopes_91 : decode cX6_findHopes 91 = .ok (.iload_n 1, 1) := by decide +kernel
theorem dX6_findHopes_92 : decode cX6_findHopes 92 = .ok (.iadd, 1) := by decide +kernel
theorem dX6_findHopes_93 : decode cX6_findHopes 93 = .ok (.aload_n 0, 1) := by decide +kernel
theorem dX6_findHopes_94 : decode cX6_findHopes 94 = .ok (.getfield 40, 3) := by decide +kernel
theorem dX6_findHopes_97 : decode cX6_findHopes 97 = .ok (.iload_n 3, 1) := by decide +kernel
theorem dX6_findHopes_98 : decode cX6_findHopes 98 = .ok (.iload_n 1, 1) := by decide +kernel
theorem dX6_findHopes_99 : decode cX6_findHopes 99 = .ok (.iadd, 1) := by decide +kernel
theorem dX6_findHopes_100 : decode cX6_findHopes 100 = .ok (.iaload, 1) := by decide +kernel
theorem dX6_findHopes_101 : decode cX6_findHopes 101 = .ok (.iload 5, 2) := by decide +kernel
theorem dX6_findHopes_103 : decode cX6_findHopes 103 = .ok (.invokestatic 114, 3) := by decide +kernel
theorem dX6_findHopes_106 : decode cX6_findHopes 106 = .ok (.iastore, 1) := by decide +kernel
theorem dX6_findHopes_107 : decode cX6_findHopes 107 = .ok (.iinc 2 (-1), 3) := by decide +kernel
theorem dX6_findHopes_110 : decode cX6_findHopes 110 = .ok (.goto (-80), 3) := by decide +kernel
theorem dX6_findHopes_113 : decode cX6_findHopes 113 = .ok (.iinc 1 1, 3) := by decide +kernel
theorem dX6_findHopes_116 : decode cX6_findHopes 116 = .ok (.goto (-114), 3) := by decide +kernel
theorem dX6_findHopes_119 : decode cX6_findHopes 119 = .ok (.return_, 1) := by decide +kernel
set_option maxRecDepth 20000 in
set_option maxHeartbeats 4000000 in
theorem c_findHopes (E : xE) (l : Launch) (a : Nat → Nat) (ws : va_W) (hW : WX (okX E a) ws) : xV E l yX6_findHopes cX6_findHopes 6 1 0 0 [.ref (a 92)] ws (fun w => WX (okX E a) w ∧ keeps ws w (fun q => q = 100)) := by
  refine xV_start (lv := [(0, .ref (a 92))]) RX6 (by decide) rfl (Nat.le_of_ble_eq_true rfl) rfl (fun p e s m below meth c A C hr hlk hin => ?_)
  have kp0 : keeps ws ws (fun q => q = 100) := keeps_rf
  refine x_iconst C (v := 0) dX6_findHopes_0 (by decide) rfl ?_
  refine x_istore_n C (lv' := [(1, .int 0), (0, .ref (a 92))]) dX6_findHopes_1 rfl (by decide) rfl rfl ?_
  have loop2 : ∀ (fu2 : Nat) (fr : Nat) (wl2 : va_W), WX (okX E a) wl2 → 11 - fr < fu2 → fr ≤ 11 → keeps ws wl2 (fun q => q = 100) → X E p l e (xRm 1 0 0) s m ([.ref (a 92)] : List Value).toArray below meth c A 6 0 0 (MQ below (va_Qv (fun w => WX (okX E a) w ∧ keeps ws w (fun q => q = 100)) (xB E A) A) ([.ref (a 92)] : List Value).toArray s 0 0 A) wl2 2 [(0, .ref (a 92)), (1, .int (nI fr))] [] := by
    intro fu2
    induction fu2 with
    | zero => intro fr wl2 _ q; omega
    | succ fu2 ih2 =>
      intro fr wl2 hWl2 me2 iv2_0 kq2
      refine x_iload_n C dX6_findHopes_2 rfl 1 rfl rfl ?_
      refine x_bipush C (v := 10) dX6_findHopes_3 (by decide) rfl ?_
      refine x_icmp_gt C (tgt := 119) dX6_findHopes_5 (by decide) rfl (fun c1 => ?_) (fun c1 => ?_)
      · skip
        have nf2 := nI_lt' (a := 10) (b := fr) c1 (by omega) (by omega)
        exact x_vret C hr hlk dX6_findHopes_119 ⟨hWl2, kq2⟩
      · skip
        have nf3 := nI_nlt' (a := 10) (b := fr) c1 (by omega) (by omega)
        refine x_aload_n C dX6_findHopes_8 rfl 0 rfl rfl ?_
        obtain ⟨_, k4, n5, n7, v9, bn6, bn8, rfl⟩ := hWl2 92 _ rfl
        refine x_get C (ci := 5) (k := 9) 92 k4 rfl in_X6 (by decide) w_329 rfl dX6_findHopes_9 rfl ?_
        refine x_aload_n C dX6_findHopes_12 rfl 0 rfl rfl ?_
        refine x_get C (ci := 5) (k := 3) 92 k4 rfl in_X6 (by decide) w_323 rfl dX6_findHopes_13 rfl ?_
        refine x_bipush C (v := 11) dX6_findHopes_16 (by decide) rfl ?_
        refine x_imul C (v := (nI (n7 * 11))) dX6_findHopes_18 (pk_mul n7 11) rfl ?_
        refine x_iload_n C dX6_findHopes_19 rfl 1 rfl rfl ?_
        refine x_iadd C (v := (nI ((n7 * 11) + fr))) dX6_findHopes_20 (nI_add (n7 * 11) fr) rfl ?_
        refine x_iconst C (v := 0) dX6_findHopes_21 (by decide) rfl ?_
        obtain ⟨_, k10, f11, rfl⟩ := hWl2 100 _ rfl
        obtain ⟨w12, hw13⟩ : ∃ w : va_W, w = List.set wl2 100 (iA E (a 100) 55 (upd f11 (nI ((n7 * 11) + fr)).toNatClampNeg 0)) := ⟨_, rfl⟩
        refine x_iast C 100 k10 (vp_in_nI (by omega) (by decide)) hw13.symm dX6_findHopes_22 rfl ?_
        have hW14 : WX (okX E a) w12 := by rw [hw13]; exact hWl2.set (k := 100) rfl ⟨_, rfl⟩
        have k15 : w12[92]? = some (ob (a 92) 5 [.ref (a 93), .ref (a 94), .int (nI n5), .int (nI n7), .ref (a 95), .ref (a 96), .ref (a 97), .ref (a 98), .ref (a 99), .ref (a 100), .ref (a 101), .ref (a 102), .int v9]) := by rw [hw13]; exact set_ne k4 (by decide)
        have k16 : w12[100]? = some (iA E (a 100) 55 (upd f11 (nI ((n7 * 11) + fr)).toNatClampNeg 0)) := by rw [hw13]; exact set_eq k10
        have kp17 := keeps_set kq2 hw13 (by first | exact rfl | decide | omega | (dsimp only; omega))
        refine x_aload_n C dX6_findHopes_23 rfl 0 rfl rfl ?_
        refine x_get C (ci := 5) (k := 3) 92 k15 rfl in_X6 (by decide) w_323 rfl dX6_findHopes_24 rfl ?_
        refine x_iconst C (v := 1) dX6_findHopes_27 (by decide) rfl ?_
        by_cases hz18 : n7 = 0
        · refine x_isub C (v := -1) dX6_findHopes_28 (by rw [hz18]; decide) rfl ?_
          refine x_istore_n C (lv' := [(2, .int (-1)), (0, .ref (a 92)), (1, .int (nI fr))]) dX6_findHopes_29 rfl (by decide) rfl rfl ?_
          refine x_iload_n C dX6_findHopes_30 rfl 0 rfl rfl ?_
          refine x_if_lt C (tgt := 113) dX6_findHopes_31 (by decide) rfl (fun _ => ?_) (fun h => absurd h (by decide))
          refine x_iinc C (v := (nI (fr + 1))) (lv' := [(1, .int (nI (fr + 1))), (2, .int (-1)), (0, .ref (a 92))]) dX6_findHopes_113 2 rfl (nI_add fr 1) (by decide) rfl rfl ?_
          refine x_goto C (tgt := 2) dX6_findHopes_116 (by decide) ?_
          refine x_lv (lv1 := [(0, .ref (a 92)), (1, .int (nI (fr + 1)))]) [2, 0] rfl ?_
          exact ih2 (fr + 1) w12 hW14 (by omega) (by omega) kp17
        · refine x_isub C (v := nI (n7 - 1)) dX6_findHopes_28 (pk_sub (a := n7) (b := 1) (by omega)) rfl ?_
          refine x_istore_n C (lv' := [(2, .int (nI (n7 - 1))), (0, .ref (a 92)), (1, .int (nI fr))]) dX6_findHopes_29 rfl (by decide) rfl rfl ?_
          have loop30 : ∀ (fu30 : Nat) (k : Nat) (wl30 : va_W), WX (okX E a) wl30 → k < fu30 → k ≤ 3 → keeps ws wl30 (fun q => q = 100) → X E p l e (xRm 1 0 0) s m ([.ref (a 92)] : List Value).toArray below meth c A 6 0 0 (MQ below (va_Qv (fun w => WX (okX E a) w ∧ keeps ws w (fun q => q = 100)) (xB E A) A) ([.ref (a 92)] : List Value).toArray s 0 0 A) wl30 30 [(0, .ref (a 92)), (1, .int (nI fr)), (2, .int (nI k))] [] := by
            intro fu30
            induction fu30 with
            | zero => intro k wl30 _ q; omega
            | succ fu30 ih30 =>
              intro k wl30 hWl30 me30 iv30_0 kq30
              refine x_iload_n C dX6_findHopes_30 rfl 2 rfl rfl ?_
              refine x_if_lt C (tgt := 113) dX6_findHopes_31 (by decide) rfl (fun c19 => ?_) (fun c19 => ?_)
              · skip
                have nf20 := nI_lt' (a := k) (b := 0) c19 (by omega) (by omega)
                refine x_iinc C (v := (nI (fr + 1))) (lv' := [(1, .int (nI (fr + 1))), (0, .ref (a 92)), (2, .int (nI k))]) dX6_findHopes_113 1 rfl (nI_add fr 1) (by decide) rfl rfl ?_
                refine x_goto C (tgt := 2) dX6_findHopes_116 (by decide) ?_
                refine x_lv (lv1 := [(0, .ref (a 92)), (1, .int (nI (fr + 1)))]) [1, 0] rfl ?_
                exact ih2 (fr + 1) wl30 hWl30 (by omega) (by omega) kq30
              · skip
                have nf21 := nI_nlt' (a := k) (b := 0) c19 (by omega) (by omega)
                refine x_iload_n C dX6_findHopes_34 rfl 2 rfl rfl ?_
                refine x_iconst C (v := 1) dX6_findHopes_35 (by decide) rfl ?_
                refine x_iadd C (v := (nI (k + 1))) dX6_findHopes_36 (nI_add k 1) rfl ?_
                refine x_bipush C (v := 11) dX6_findHopes_37 (by decide) rfl ?_
                refine x_imul C (v := (nI ((k + 1) * 11))) dX6_findHopes_39 (pk_mul (k + 1) 11) rfl ?_
                refine x_istore_n C (lv' := [(3, .int (nI ((k + 1) * 11))), (0, .ref (a 92)), (1, .int (nI fr)), (2, .int (nI k))]) dX6_findHopes_40 rfl (by decide) rfl rfl ?_
                refine x_iload_n C dX6_findHopes_41 rfl 2 rfl rfl ?_
                refine x_aload_n C dX6_findHopes_42 rfl 1 rfl rfl ?_
                obtain ⟨_, k22, n23, n25, v27, bn24, bn26, rfl⟩ := hWl30 92 _ rfl
                refine x_get C (ci := 5) (k := 8) 92 k22 rfl in_X6 (by decide) w_328 rfl dX6_findHopes_43 rfl ?_
                refine x_iload_n C dX6_findHopes_46 rfl 3 rfl rfl ?_
                obtain ⟨_, k28, g29, gb30, rfl⟩ := hWl30 99 _ rfl
                refine x_ialk C (v := nI (g29 k)) k (nI_clamp (by omega)) (nI_pos (by omega)) (by omega) 99 k28 rfl dX6_findHopes_47 rfl ?_
                have bx31 := gb30 k
                by_cases hl32 : fr < (g29 k)
                · refine x_isub C (v := (nI fr - nI (g29 k))) dX6_findHopes_48 rfl rfl ?_
                  refine x_istore C (lv' := [(4, .int (nI fr - nI (g29 k))), (3, .int (nI ((k + 1) * 11))), (0, .ref (a 92)), (1, .int (nI fr)), (2, .int (nI k))]) dX6_findHopes_49 (by decide) rfl rfl ?_
                  refine x_iload C dX6_findHopes_51 0 rfl rfl ?_
                  refine x_if_ge C (tgt := 60) dX6_findHopes_53 (by decide) rfl (fun h => absurd h (sbn hl32 (by omega))) (fun _ => ?_)
                  refine x_iconst C (v := 0) dX6_findHopes_56 (by decide) rfl ?_
                  refine x_goto C (tgt := 81) dX6_findHopes_57 (by decide) ?_
                  refine x_istore C (lv' := [(5, .int 0), (4, .int (nI fr - nI (g29 k))), (3, .int (nI ((k + 1) * 11))), (0, .ref (a 92)), (1, .int (nI fr)), (2, .int (nI k))]) dX6_findHopes_81 (by decide) rfl rfl ?_
                  refine x_aload_n C dX6_findHopes_83 rfl 3 rfl rfl ?_
                  refine x_get C (ci := 5) (k := 9) 92 k22 rfl in_X6 (by decide) w_329 rfl dX6_findHopes_84 rfl ?_
                  refine x_iload_n C dX6_findHopes_87 rfl 5 rfl rfl ?_
                  refine x_bipush C (v := 11) dX6_findHopes_88 (by decide) rfl ?_
                  refine x_imul C (v := (nI (k * 11))) dX6_findHopes_90 (pk_mul k 11) rfl ?_
                  refine x_iload_n C dX6_findHopes_91 rfl 4 rfl rfl ?_
                  refine x_iadd C (v := (nI ((k * 11) + fr))) dX6_findHopes_92 (nI_add (k * 11) fr) rfl ?_
                  refine x_aload_n C dX6_findHopes_93 rfl 3 rfl rfl ?_
                  refine x_get C (ci := 5) (k := 9) 92 k22 rfl in_X6 (by decide) w_329 rfl dX6_findHopes_94 rfl ?_
                  refine x_iload_n C dX6_findHopes_97 rfl 2 rfl rfl ?_
                  refine x_iload_n C dX6_findHopes_98 rfl 4 rfl rfl ?_
                  refine x_iadd C (v := (nI (((k + 1) * 11) + fr))) dX6_findHopes_99 (nI_add ((k + 1) * 11) fr) rfl ?_
                  obtain ⟨_, k33, f34, rfl⟩ := hWl30 100 _ rfl
                  refine x_iald C (v := (f34 (nI (((k + 1) * 11) + fr)).toNatClampNeg)) 100 k33 (vp_in_nI (by omega) (by decide)) rfl dX6_findHopes_100 rfl ?_
                  refine x_any (fun v35 => ?_)
                  refine x_iload C dX6_findHopes_101 0 rfl rfl ?_
                  refine x_mmax C (v := (if v35 < (0 : Int32) then (0 : Int32) else v35)) w_935 w_558 w_16 w_559 (Nat.le_of_ble_eq_true rfl) (Nat.le_of_ble_eq_true rfl) (Nat.le_of_ble_eq_true rfl) (Nat.le_of_ble_eq_true rfl) rfl dX6_findHopes_103 rfl ?_
                  refine x_any (fun v36 => ?_)
                  obtain ⟨w37, hw38⟩ : ∃ w : va_W, w = List.set wl30 100 (iA E (a 100) 55 (upd f34 (nI ((k * 11) + fr)).toNatClampNeg v36)) := ⟨_, rfl⟩
                  refine x_iast C 100 k33 (vp_in_nI (by omega) (by decide)) hw38.symm dX6_findHopes_106 rfl ?_
                  have hW39 : WX (okX E a) w37 := by rw [hw38]; exact hWl30.set (k := 100) rfl ⟨_, rfl⟩
                  have k40 : w37[92]? = some (ob (a 92) 5 [.ref (a 93), .ref (a 94), .int (nI n23), .int (nI n25), .ref (a 95), .ref (a 96), .ref (a 97), .ref (a 98), .ref (a 99), .ref (a 100), .ref (a 101), .ref (a 102), .int v27]) := by rw [hw38]; exact set_ne k22 (by decide)
                  have k41 : w37[99]? = some (iA E (a 99) 4 (fun j => nI (g29 j))) := by rw [hw38]; exact set_ne k28 (by decide)
                  have k42 : w37[100]? = some (iA E (a 100) 55 (upd f34 (nI ((k * 11) + fr)).toNatClampNeg v36)) := by rw [hw38]; exact set_eq k33
                  have kp43 := keeps_set kq30 hw38 (by first | exact rfl | decide | omega | (dsimp only; omega))
                  by_cases hz44 : k = 0
                  · refine x_iinc C (v := -1) (lv' := [(2, .int (-1)), (5, .int 0), (4, .int (nI fr - nI (g29 k))), (3, .int (nI ((k + 1) * 11))), (0, .ref (a 92)), (1, .int (nI fr))]) dX6_findHopes_107 5 rfl (by rw [hz44]; decide) (by decide) rfl rfl ?_
                    refine x_goto C (tgt := 30) dX6_findHopes_110 (by decide) ?_
                    refine x_iload_n C dX6_findHopes_30 rfl 0 rfl rfl ?_
                    refine x_if_lt C (tgt := 113) dX6_findHopes_31 (by decide) rfl (fun _ => ?_) (fun h => absurd h (by decide))
                    refine x_iinc C (v := (nI (fr + 1))) (lv' := [(1, .int (nI (fr + 1))), (2, .int (-1)), (5, .int 0), (4, .int (nI fr - nI (g29 k))), (3, .int (nI ((k + 1) * 11))), (0, .ref (a 92))]) dX6_findHopes_113 5 rfl (nI_add fr 1) (by decide) rfl rfl ?_
                    refine x_goto C (tgt := 2) dX6_findHopes_116 (by decide) ?_
                    refine x_lv (lv1 := [(0, .ref (a 92)), (1, .int (nI (fr + 1)))]) [5, 0] rfl ?_
                    exact ih2 (fr + 1) w37 hW39 (by omega) (by omega) kp43
                  · refine x_iinc C (v := nI (k - 1)) (lv' := [(2, .int (nI (k - 1))), (5, .int 0), (4, .int (nI fr - nI (g29 k))), (3, .int (nI ((k + 1) * 11))), (0, .ref (a 92)), (1, .int (nI fr))]) dX6_findHopes_107 5 rfl (dec_n (by omega)) (by decide) rfl rfl ?_
                    refine x_goto C (tgt := 30) dX6_findHopes_110 (by decide) ?_
                    refine x_lv (lv1 := [(0, .ref (a 92)), (1, .int (nI fr)), (2, .int (nI (k - 1)))]) [4, 5, 0] rfl ?_
                    exact ih30 (k - 1) w37 hW39 (by omega) (by omega) kp43
                · refine x_isub C (v := nI (fr - (g29 k))) dX6_findHopes_48 (pk_sub (a := fr) (b := (g29 k)) (by omega)) rfl ?_
                  refine x_istore C (lv' := [(4, .int (nI (fr - (g29 k)))), (3, .int (nI ((k + 1) * 11))), (0, .ref (a 92)), (1, .int (nI fr)), (2, .int (nI k))]) dX6_findHopes_49 (by decide) rfl rfl ?_
                  refine x_iload C dX6_findHopes_51 0 rfl rfl ?_
                  refine x_if_ge C (tgt := 60) dX6_findHopes_53 (by decide) rfl (fun c45 => ?_) (fun c45 => ?_)
                  · skip
                    have nf46 := nI_le' (a := 0) (b := (fr - (g29 k))) c45 (by omega) (by omega)
                    refine x_aload_n C dX6_findHopes_60 rfl 2 rfl rfl ?_
                    refine x_iload_n C dX6_findHopes_61 rfl 4 rfl rfl ?_
                    refine x_aload_n C dX6_findHopes_62 rfl 2 rfl rfl ?_
                    refine x_get C (ci := 5) (k := 8) 92 k22 rfl in_X6 (by decide) w_328 rfl dX6_findHopes_63 rfl ?_
                    refine x_iload_n C dX6_findHopes_66 rfl 4 rfl rfl ?_
                    refine x_ialk C (v := nI (g29 k)) k (nI_clamp (by omega)) (nI_pos (by omega)) (by omega) 99 k28 rfl dX6_findHopes_67 rfl ?_
                    have bx47 := gb30 k
                    refine x_vi C (As := [.int (nI k), .int (nI (g29 k))]) (rest := []) (c_gain E l a wl30 hWl30 k ((nI (g29 k))) (by omega)) mf_X6_gain w_931 92 k22 rfl rfl rfl (Nat.le_of_ble_eq_true rfl) ⟨(Nat.le_of_ble_eq_true rfl), (Nat.le_of_ble_eq_true rfl)⟩ ⟨(Nat.le_of_ble_eq_true rfl), (Nat.le_of_ble_eq_true rfl)⟩ dX6_findHopes_68 rfl (fun r49 w50 h48 => ?_)
                    have hW51 := h48
                    refine x_ws hW51 ?_
                    refine x_aload_n C dX6_findHopes_71 rfl 2 rfl rfl ?_
                    refine x_get C (ci := 5) (k := 9) 92 k22 rfl in_X6 (by decide) w_329 rfl dX6_findHopes_72 rfl ?_
                    refine x_iload_n C dX6_findHopes_75 rfl 1 rfl rfl ?_
                    refine x_iload C dX6_findHopes_76 0 rfl rfl ?_
                    refine x_iadd C (v := (nI (((k + 1) * 11) + (fr - (g29 k))))) dX6_findHopes_78 (nI_add ((k + 1) * 11) (fr - (g29 k))) rfl ?_
                    obtain ⟨_, k52, f53, rfl⟩ := hWl30 100 _ rfl
                    refine x_iald C (v := (f53 (nI (((k + 1) * 11) + (fr - (g29 k)))).toNatClampNeg)) 100 k52 (vp_in_nI (by omega) (by decide)) rfl dX6_findHopes_79 rfl ?_
                    refine x_any (fun v54 => ?_)
                    refine x_iadd C (v := (r49 + v54)) dX6_findHopes_80 rfl rfl ?_
                    refine x_any (fun v55 => ?_)
                    refine x_istore C (lv' := [(5, .int v55), (4, .int (nI (fr - (g29 k)))), (3, .int (nI ((k + 1) * 11))), (0, .ref (a 92)), (1, .int (nI fr)), (2, .int (nI k))]) dX6_findHopes_81 (by decide) rfl rfl ?_
                    refine x_aload_n C dX6_findHopes_83 rfl 3 rfl rfl ?_
                    refine x_get C (ci := 5) (k := 9) 92 k22 rfl in_X6 (by decide) w_329 rfl dX6_findHopes_84 rfl ?_
                    refine x_iload_n C dX6_findHopes_87 rfl 5 rfl rfl ?_
                    refine x_bipush C (v := 11) dX6_findHopes_88 (by decide) rfl ?_
                    refine x_imul C (v := (nI (k * 11))) dX6_findHopes_90 (pk_mul k 11) rfl ?_
                    refine x_iload_n C dX6_findHopes_91 rfl 4 rfl rfl ?_
                    refine x_iadd C (v := (nI ((k * 11) + fr))) dX6_findHopes_92 (nI_add (k * 11) fr) rfl ?_
                    refine x_aload_n C dX6_findHopes_93 rfl 3 rfl rfl ?_
                    refine x_get C (ci := 5) (k := 9) 92 k22 rfl in_X6 (by decide) w_329 rfl dX6_findHopes_94 rfl ?_
                    refine x_iload_n C dX6_findHopes_97 rfl 2 rfl rfl ?_
                    refine x_iload_n C dX6_findHopes_98 rfl 4 rfl rfl ?_
                    refine x_iadd C (v := (nI (((k + 1) * 11) + fr))) dX6_findHopes_99 (nI_add ((k + 1) * 11) fr) rfl ?_
                    refine x_iald C (v := (f53 (nI (((k + 1) * 11) + fr)).toNatClampNeg)) 100 k52 (vp_in_nI (by omega) (by decide)) rfl dX6_findHopes_100 rfl ?_
                    refine x_any (fun v56 => ?_)
                    refine x_iload C dX6_findHopes_101 0 rfl rfl ?_
                    refine x_mmax C (v := (if v56 < v55 then v55 else v56)) w_935 w_558 w_16 w_559 (Nat.le_of_ble_eq_true rfl) (Nat.le_of_ble_eq_true rfl) (Nat.le_of_ble_eq_true rfl) (Nat.le_of_ble_eq_true rfl) rfl dX6_findHopes_103 rfl ?_
                    refine x_any (fun v57 => ?_)
                    obtain ⟨w58, hw59⟩ : ∃ w : va_W, w = List.set wl30 100 (iA E (a 100) 55 (upd f53 (nI ((k * 11) + fr)).toNatClampNeg v57)) := ⟨_, rfl⟩
                    refine x_iast C 100 k52 (vp_in_nI (by omega) (by decide)) hw59.symm dX6_findHopes_106 rfl ?_
                    have hW60 : WX (okX E a) w58 := by rw [hw59]; exact hWl30.set (k := 100) rfl ⟨_, rfl⟩
                    have k61 : w58[92]? = some (ob (a 92) 5 [.ref (a 93), .ref (a 94), .int (nI n23), .int (nI n25), .ref (a 95), .ref (a 96), .ref (a 97), .ref (a 98), .ref (a 99), .ref (a 100), .ref (a 101), .ref (a 102), .int v27]) := by rw [hw59]; exact set_ne k22 (by decide)
                    have k62 : w58[99]? = some (iA E (a 99) 4 (fun j => nI (g29 j))) := by rw [hw59]; exact set_ne k28 (by decide)
                    have k63 : w58[100]? = some (iA E (a 100) 55 (upd f53 (nI ((k * 11) + fr)).toNatClampNeg v57)) := by rw [hw59]; exact set_eq k52
                    have kp64 := keeps_set kq30 hw59 (by first | exact rfl | decide | omega | (dsimp only; omega))
                    by_cases hz65 : k = 0
                    · refine x_iinc C (v := -1) (lv' := [(2, .int (-1)), (5, .int v55), (4, .int (nI (fr - (g29 k)))), (3, .int (nI ((k + 1) * 11))), (0, .ref (a 92)), (1, .int (nI fr))]) dX6_findHopes_107 5 rfl (by rw [hz65]; decide) (by decide) rfl rfl ?_
                      refine x_goto C (tgt := 30) dX6_findHopes_110 (by decide) ?_
                      refine x_iload_n C dX6_findHopes_30 rfl 0 rfl rfl ?_
                      refine x_if_lt C (tgt := 113) dX6_findHopes_31 (by decide) rfl (fun _ => ?_) (fun h => absurd h (by decide))
                      refine x_iinc C (v := (nI (fr + 1))) (lv' := [(1, .int (nI (fr + 1))), (2, .int (-1)), (5, .int v55), (4, .int (nI (fr - (g29 k)))), (3, .int (nI ((k + 1) * 11))), (0, .ref (a 92))]) dX6_findHopes_113 5 rfl (nI_add fr 1) (by decide) rfl rfl ?_
                      refine x_goto C (tgt := 2) dX6_findHopes_116 (by decide) ?_
                      refine x_lv (lv1 := [(0, .ref (a 92)), (1, .int (nI (fr + 1)))]) [5, 0] rfl ?_
                      exact ih2 (fr + 1) w58 hW60 (by omega) (by omega) kp64
                    · refine x_iinc C (v := nI (k - 1)) (lv' := [(2, .int (nI (k - 1))), (5, .int v55), (4, .int (nI (fr - (g29 k)))), (3, .int (nI ((k + 1) * 11))), (0, .ref (a 92)), (1, .int (nI fr))]) dX6_findHopes_107 5 rfl (dec_n (by omega)) (by decide) rfl rfl ?_
                      refine x_goto C (tgt := 30) dX6_findHopes_110 (by decide) ?_
                      refine x_lv (lv1 := [(0, .ref (a 92)), (1, .int (nI fr)), (2, .int (nI (k - 1)))]) [4, 5, 0] rfl ?_
                      exact ih30 (k - 1) w58 hW60 (by omega) (by omega) kp64
                  · skip
                    have nf66 := nI_nle' (a := 0) (b := (fr - (g29 k))) c45 (by omega) (by omega)
                    refine x_iconst C (v := 0) dX6_findHopes_56 (by decide) rfl ?_
                    refine x_goto C (tgt := 81) dX6_findHopes_57 (by decide) ?_
                    refine x_istore C (lv' := [(5, .int 0), (4, .int (nI (fr - (g29 k)))), (3, .int (nI ((k + 1) * 11))), (0, .ref (a 92)), (1, .int (nI fr)), (2, .int (nI k))]) dX6_findHopes_81 (by decide) rfl rfl ?_
                    refine x_aload_n C dX6_findHopes_83 rfl 3 rfl rfl ?_
                    refine x_get C (ci := 5) (k := 9) 92 k22 rfl in_X6 (by decide) w_329 rfl dX6_findHopes_84 rfl ?_
                    refine x_iload_n C dX6_findHopes_87 rfl 5 rfl rfl ?_
                    refine x_bipush C (v := 11) dX6_findHopes_88 (by decide) rfl ?_
                    refine x_imul C (v := (nI (k * 11))) dX6_findHopes_90 (pk_mul k 11) rfl ?_
                    refine x_iload_n C dX6_findHopes_91 rfl 4 rfl rfl ?_
                    refine x_iadd C (v := (nI ((k * 11) + fr))) dX6_findHopes_92 (nI_add (k * 11) fr) rfl ?_
                    refine x_aload_n C dX6_findHopes_93 rfl 3 rfl rfl ?_
                    refine x_get C (ci := 5) (k := 9) 92 k22 rfl in_X6 (by decide) w_329 rfl dX6_findHopes_94 rfl ?_
                    refine x_iload_n C dX6_findHopes_97 rfl 2 rfl rfl ?_
                    refine x_iload_n C dX6_findHopes_98 rfl 4 rfl rfl ?_
                    refine x_iadd C (v := (nI (((k + 1) * 11) + fr))) dX6_findHopes_99 (nI_add ((k + 1) * 11) fr) rfl ?_
                    obtain ⟨_, k67, f68, rfl⟩ := hWl30 100 _ rfl
                    refine x_iald C (v := (f68 (nI (((k + 1) * 11) + fr)).toNatClampNeg)) 100 k67 (vp_in_nI (by omega) (by decide)) rfl dX6_findHopes_100 rfl ?_
                    refine x_any (fun v69 => ?_)
                    refine x_iload C dX6_findHopes_101 0 rfl rfl ?_
                    refine x_mmax C (v := (if v69 < (0 : Int32) then (0 : Int32) else v69)) w_935 w_558 w_16 w_559 (Nat.le_of_ble_eq_true rfl) (Nat.le_of_ble_eq_true rfl) (Nat.le_of_ble_eq_true rfl) (Nat.le_of_ble_eq_true rfl) rfl dX6_findHopes_103 rfl ?_
                    refine x_any (fun v70 => ?_)
                    obtain ⟨w71, hw72⟩ : ∃ w : va_W, w = List.set wl30 100 (iA E (a 100) 55 (upd f68 (nI ((k * 11) + fr)).toNatClampNeg v70)) := ⟨_, rfl⟩
                    refine x_iast C 100 k67 (vp_in_nI (by omega) (by decide)) hw72.symm dX6_findHopes_106 rfl ?_
                    have hW73 : WX (okX E a) w71 := by rw [hw72]; exact hWl30.set (k := 100) rfl ⟨_, rfl⟩
                    have k74 : w71[92]? = some (ob (a 92) 5 [.ref (a 93), .ref (a 94), .int (nI n23), .int (nI n25), .ref (a 95), .ref (a 96), .ref (a 97), .ref (a 98), .ref (a 99), .ref (a 100), .ref (a 101), .ref (a 102), .int v27]) := by rw [hw72]; exact set_ne k22 (by decide)
                    have k75 : w71[99]? = some (iA E (a 99) 4 (fun j => nI (g29 j))) := by rw [hw72]; exact set_ne k28 (by decide)
                    have k76 : w71[100]? = some (iA E (a 100) 55 (upd f68 (nI ((k * 11) + fr)).toNatClampNeg v70)) := by rw [hw72]; exact set_eq k67
                    have kp77 := keeps_set kq30 hw72 (by first | exact rfl | decide | omega | (dsimp only; omega))
                    by_cases hz78 : k = 0
                    · refine x_iinc C (v := -1) (lv' := [(2, .int (-1)), (5, .int 0), (4, .int (nI (fr - (g29 k)))), (3, .int (nI ((k + 1) * 11))), (0, .ref (a 92)), (1, .int (nI fr))]) dX6_findHopes_107 5 rfl (by rw [hz78]; decide) (by decide) rfl rfl ?_
                      refine x_goto C (tgt := 30) dX6_findHopes_110 (by decide) ?_
                      refine x_iload_n C dX6_findHopes_30 rfl 0 rfl rfl ?_
                      refine x_if_lt C (tgt := 113) dX6_findHopes_31 (by decide) rfl (fun _ => ?_) (fun h => absurd h (by decide))
                      refine x_iinc C (v := (nI (fr + 1))) (lv' := [(1, .int (nI (fr + 1))), (2, .int (-1)), (5, .int 0), (4, .int (nI (fr - (g29 k)))), (3, .int (nI ((k + 1) * 11))), (0, .ref (a 92))]) dX6_findHopes_113 5 rfl (nI_add fr 1) (by decide) rfl rfl ?_
                      refine x_goto C (tgt := 2) dX6_findHopes_116 (by decide) ?_
                      refine x_lv (lv1 := [(0, .ref (a 92)), (1, .int (nI (fr + 1)))]) [5, 0] rfl ?_
                      exact ih2 (fr + 1) w71 hW73 (by omega) (by omega) kp77
                    · refine x_iinc C (v := nI (k - 1)) (lv' := [(2, .int (nI (k - 1))), (5, .int 0), (4, .int (nI (fr - (g29 k)))), (3, .int (nI ((k + 1) * 11))), (0, .ref (a 92)), (1, .int (nI fr))]) dX6_findHopes_107 5 rfl (dec_n (by omega)) (by decide) rfl rfl ?_
                      refine x_goto C (tgt := 30) dX6_findHopes_110 (by decide) ?_
                      refine x_lv (lv1 := [(0, .ref (a 92)), (1, .int (nI fr)), (2, .int (nI (k - 1)))]) [4, 5, 0] rfl ?_
                      exact ih30 (k - 1) w71 hW73 (by omega) (by omega) kp77
          refine x_lv (lv1 := [(0, .ref (a 92)), (1, .int (nI fr)), (2, .int (nI (n7 - 1)))]) [1, 2, 0] rfl ?_
          exact loop30 _ (n7 - 1) w12 hW14 (Nat.lt_succ_self _) (by omega) kp17
  refine x_lv (lv1 := [(0, .ref (a 92)), (1, .int 0)]) [1, 0] rfl ?_
  exact loop2 _ 0 ws hW (Nat.lt_succ_self _) (by omega) kp0
theorem dX6_choose_0 : decode cX6_choose 0 = .ok (.iload_n 1, 1) := by decide +kernel
theorem dX6_choose_1 : decode cX6_choose 1 = .ok (.aload_n 0, 1) := by decide +kernel
theorem dX6_choose_2 : decode cX6_choose 2 = .ok (.getfield 22, 3) := by decide +kernel
theorem dX6_choose_5 : decode cX6_choose 5 = .ok (.if_icmp .ge 8, 3) := by decide +kernel
theorem dX6_choose_8 : decode cX6_choose 8 = .ok (.iload_n 1, 1) := by decide +kernel
theorem dX6_choose_9 : decode cX6_choose 9 = .ok (.iconst 4, 1) := by decide +kernel
theorem dX6_choose_10 : decode cX6_choose 10 = .ok (.if_icmp .lt 31, 3) := by decide +kernel
theorem dX6_choose_13 : decode cX6_choose 13 = .ok (.iload_n 3, 1) := by decide +kernel
theorem dX6_choose_14 : decode cX6_choose 14 = .ok (.aload_n 0, 1) := by decide +kernel
theorem dX6_choose_15 : decode cX6_choose 15 = .ok (.getfield 49, 3) := by decide +kernel
theorem dX6_choose_18 : decode cX6_choose 18 = .ok (.if_icmp .le 22, 3) := by decide +kernel
theorem dX6_choose_21 : decode cX6_choose 21 = .ok (.aload_n 0, 1) := by decide +kernel
theorem dX6_choose_22 : decode cX6_choose 22 = .ok (.iload_n 3, 1) := by decide +kernel
theorem dX6_choose_23 : decode cX6_choose 23 = .ok (.putfield 49, 3) := by decide +kernel
theorem dX6_choose_26 : decode cX6_choose 26 = .ok (.aload_n 0, 1) := by decide +kernel
theorem dX6_choose_27 : decode cX6_choose 27 = .ok (.getfield 43, 3) := by decide +kernel
theorem dX6_choose_30 : decode cX6_choose 30 = .ok (.iconst 0, 1) := by decide +kernel
theorem dX6_choose_31 : decode cX6_choose 31 = .ok (.aload_n 0, 1) := by decide +kernel
theorem dX6_choose_32 : decode cX6_choose 32 = .ok (.getfield 46, 3) := by decide +kernel
theorem dX6_choose_35 : decode cX6_choose 35 = .ok (.iconst 0, 1) := by decide +kernel
theorem dX6_choose_36 : decode cX6_choose 36 = .ok (.iconst 4, 1) := by decide +kernel
theorem dX6_choose_37 : decode cX6_choose 37 = .ok (.invokestatic 117, 3) := by decide +kernel
theorem dX6_choose_40 : decode cX6_choose 40 = .ok (.return_, 1) := by decide +kernel
set_option maxRecDepth 20000 in
set_option maxHeartbeats 4000000 in
theorem c_choose4 (E : xE) (l : Launch) (a : Nat → Nat) (ws : va_W) (hW : WX (okX E a) ws) (f0 : Nat) (p2 : Int32) (hf0 : f0 < 1024) : xV E l yX6_choose cX6_choose 7 1 0 0 [.ref (a 92), .int 4, .int (nI f0), .int p2] ws (fun w => WX (okX E a) w ∧ keeps ws w (fun q => q = 92 ∨ q = 101 ∨ q = 102)) := by
  refine xV_start (lv := [(0, .ref (a 92)), (1, .int 4), (2, .int (nI f0)), (3, .int p2)]) RX6 (by decide) rfl (Nat.le_of_ble_eq_true rfl) rfl (fun p e s m below meth c A C hr hlk hin => ?_)
  have kp0 : keeps ws ws (fun q => q = 92 ∨ q = 101 ∨ q = 102) := keeps_rf
  refine x_iload_n C dX6_choose_0 rfl 1 rfl rfl ?_
  refine x_aload_n C dX6_choose_1 rfl 0 rfl rfl ?_
  obtain ⟨_, k1, n2, n4, v6, bn3, bn5, rfl⟩ := hW 92 _ rfl
  refine x_get C (ci := 5) (k := 3) 92 k1 rfl in_X6 (by decide) w_323 rfl dX6_choose_2 rfl ?_
  refine x_icmp_ge C (tgt := 13) dX6_choose_5 (by decide) rfl (fun c7 => ?_) (fun c7 => ?_)
  · skip
    have nf8 := nI_le' (a := n4) (b := 4) c7 (by omega) (by omega)
    refine x_iload_n C dX6_choose_13 rfl 3 rfl rfl ?_
    refine x_aload_n C dX6_choose_14 rfl 0 rfl rfl ?_
    refine x_get C (ci := 5) (k := 12) 92 k1 rfl in_X6 (by decide) w_332 rfl dX6_choose_15 rfl ?_
    refine x_icmp_le C (tgt := 40) dX6_choose_18 (by decide) rfl (fun c9 => ?_) (fun c9 => ?_)
    · skip
      exact x_vret C hr hlk dX6_choose_40 ⟨hW, kp0⟩
    · skip
      refine x_aload_n C dX6_choose_21 rfl 0 rfl rfl ?_
      refine x_iload_n C dX6_choose_22 rfl 3 rfl rfl ?_
      obtain ⟨w10, hw11⟩ : ∃ w : va_W, w = List.set ws 92 (ob (a 92) 5 [.ref (a 93), .ref (a 94), .int (nI n2), .int (nI n4), .ref (a 95), .ref (a 96), .ref (a 97), .ref (a 98), .ref (a 99), .ref (a 100), .ref (a 101), .ref (a 102), .int p2]) := ⟨_, rfl⟩
      refine x_put C (ci := 5) (k := 12) (ty := .int) 92 k1 rfl in_X6 tyX6 tyX6_ok nmX6 (by decide) w_332 rfl rfl rfl rfl (Nat.le_of_ble_eq_true rfl) hw11.symm dX6_choose_23 rfl ?_
      have hW12 : WX (okX E a) w10 := by rw [hw11]; exact hW.set (k := 92) rfl ⟨n2, n4, p2, by omega, by omega, rfl⟩
      have k13 : w10[92]? = some (ob (a 92) 5 [.ref (a 93), .ref (a 94), .int (nI n2), .int (nI n4), .ref (a 95), .ref (a 96), .ref (a 97), .ref (a 98), .ref (a 99), .ref (a 100), .ref (a 101), .ref (a 102), .int p2]) := by rw [hw11]; exact set_eq k1
      have kp14 := keeps_set kp0 hw11 (by first | exact rfl | decide | omega | (dsimp only; omega))
      refine x_aload_n C dX6_choose_26 rfl 0 rfl rfl ?_
      refine x_get C (ci := 5) (k := 10) 92 k13 rfl in_X6 (by decide) w_330 rfl dX6_choose_27 rfl ?_
      refine x_iconst C (v := 0) dX6_choose_30 (by decide) rfl ?_
      refine x_aload_n C dX6_choose_31 rfl 0 rfl rfl ?_
      refine x_get C (ci := 5) (k := 11) 92 k13 rfl in_X6 (by decide) w_331 rfl dX6_choose_32 rfl ?_
      refine x_iconst C (v := 0) dX6_choose_35 (by decide) rfl ?_
      refine x_iconst C (v := 4) dX6_choose_36 (by decide) rfl ?_
      obtain ⟨_, k15, f16, rfl⟩ := hW12 101 _ rfl
      obtain ⟨_, k17, f18, rfl⟩ := hW12 102 _ rfl
      obtain ⟨w19, hw20⟩ : ∃ w : va_W, w = List.set w10 102 (iA E (a 102) 4 (va_cpy f16 f18 0 0 4)) := ⟨_, rfl⟩
      refine x_copy C 101 102 k15 k17 w_940 w_798 w_797 w_20 (by decide) (by decide) (by decide) (by decide) (by decide) (Nat.le_of_ble_eq_true rfl) (Nat.le_of_ble_eq_true rfl) hw20.symm dX6_choose_37 rfl ?_
      have hW21 : WX (okX E a) w19 := by rw [hw20]; exact hW12.set (k := 102) rfl ⟨_, rfl⟩
      have k22 : w19[92]? = some (ob (a 92) 5 [.ref (a 93), .ref (a 94), .int (nI n2), .int (nI n4), .ref (a 95), .ref (a 96), .ref (a 97), .ref (a 98), .ref (a 99), .ref (a 100), .ref (a 101), .ref (a 102), .int p2]) := by rw [hw20]; exact set_ne k13 (by decide)
      have k23 : w19[101]? = some (iA E (a 101) 4 f16) := by rw [hw20]; exact set_ne k15 (by decide)
      have k24 : w19[102]? = some (iA E (a 102) 4 (va_cpy f16 f18 0 0 4)) := by rw [hw20]; exact set_eq k17
      have kp25 := keeps_set kp14 hw20 (by first | exact rfl | decide | omega | (dsimp only; omega))
      exact x_vret C hr hlk dX6_choose_40 ⟨hW21, kp25⟩
  · skip
    have nf26 := nI_nle' (a := n4) (b := 4) c7 (by omega) (by omega)
    refine x_iload_n C dX6_choose_8 rfl 1 rfl rfl ?_
    refine x_iconst C (v := 4) dX6_choose_9 (by decide) rfl ?_
    refine x_icmp_lt C (tgt := 41) dX6_choose_10 (by decide) rfl (fun h => absurd h (by decide)) (fun _ => ?_)
    refine x_iload_n C dX6_choose_13 rfl 3 rfl rfl ?_
    refine x_aload_n C dX6_choose_14 rfl 0 rfl rfl ?_
    refine x_get C (ci := 5) (k := 12) 92 k1 rfl in_X6 (by decide) w_332 rfl dX6_choose_15 rfl ?_
    refine x_icmp_le C (tgt := 40) dX6_choose_18 (by decide) rfl (fun c27 => ?_) (fun c27 => ?_)
    · skip
      exact x_vret C hr hlk dX6_choose_40 ⟨hW, kp0⟩
    · skip
      refine x_aload_n C dX6_choose_21 rfl 0 rfl rfl ?_
      refine x_iload_n C dX6_choose_22 rfl 3 rfl rfl ?_
      obtain ⟨w28, hw29⟩ : ∃ w : va_W, w = List.set ws 92 (ob (a 92) 5 [.ref (a 93), .ref (a 94), .int (nI n2), .int (nI n4), .ref (a 95), .ref (a 96), .ref (a 97), .ref (a 98), .ref (a 99), .ref (a 100), .ref (a 101), .ref (a 102), .int p2]) := ⟨_, rfl⟩
      refine x_put C (ci := 5) (k := 12) (ty := .int) 92 k1 rfl in_X6 tyX6 tyX6_ok nmX6 (by decide) w_332 rfl rfl rfl rfl (Nat.le_of_ble_eq_true rfl) hw29.symm dX6_choose_23 rfl ?_
      have hW30 : WX (okX E a) w28 := by rw [hw29]; exact hW.set (k := 92) rfl ⟨n2, n4, p2, by omega, by omega, rfl⟩
      have k31 : w28[92]? = some (ob (a 92) 5 [.ref (a 93), .ref (a 94), .int (nI n2), .int (nI n4), .ref (a 95), .ref (a 96), .ref (a 97), .ref (a 98), .ref (a 99), .ref (a 100), .ref (a 101), .ref (a 102), .int p2]) := by rw [hw29]; exact set_eq k1
      have kp32 := keeps_set kp0 hw29 (by first | exact rfl | decide | omega | (dsimp only; omega))
      refine x_aload_n C dX6_choose_26 rfl 0 rfl rfl ?_
      refine x_get C (ci := 5) (k := 10) 92 k31 rfl in_X6 (by decide) w_330 rfl dX6_choose_27 rfl ?_
      refine x_iconst C (v := 0) dX6_choose_30 (by decide) rfl ?_
      refine x_aload_n C dX6_choose_31 rfl 0 rfl rfl ?_
      refine x_get C (ci := 5) (k := 11) 92 k31 rfl in_X6 (by decide) w_331 rfl dX6_choose_32 rfl ?_
      refine x_iconst C (v := 0) dX6_choose_35 (by decide) rfl ?_
      refine x_iconst C (v := 4) dX6_choose_36 (by decide) rfl ?_
      obtain ⟨_, k33, f34, rfl⟩ := hW30 101 _ rfl
      obtain ⟨_, k35, f36, rfl⟩ := hW30 102 _ rfl
      obtain ⟨w37, hw38⟩ : ∃ w : va_W, w = List.set w28 102 (iA E (a 102) 4 (va_cpy f34 f36 0 0 4)) := ⟨_, rfl⟩
      refine x_copy C 101 102 k33 k35 w_940 w_798 w_797 w_20 (by decide) (by decide) (by decide) (by decide) (by decide) (Nat.le_of_ble_eq_true rfl) (Nat.le_of_ble_eq_true rfl) hw38.symm dX6_choose_37 rfl ?_
      have hW39 : WX (okX E a) w37 := by rw [hw38]; exact hW30.set (k := 102) rfl ⟨_, rfl⟩
      have k40 : w37[92]? = some (ob (a 92) 5 [.ref (a 93), .ref (a 94), .int (nI n2), .int (nI n4), .ref (a 95), .ref (a 96), .ref (a 97), .ref (a 98), .ref (a 99), .ref (a 100), .ref (a 101), .ref (a 102), .int p2]) := by rw [hw38]; exact set_ne k31 (by decide)
      have k41 : w37[101]? = some (iA E (a 101) 4 f34) := by rw [hw38]; exact set_ne k33 (by decide)
      have k42 : w37[102]? = some (iA E (a 102) 4 (va_cpy f34 f36 0 0 4)) := by rw [hw38]; exact set_eq k35
      have kp43 := keeps_set kp32 hw38 (by first | exact rfl | decide | omega | (dsimp only; omega))
      exact x_vret C hr hlk dX6_choose_40 ⟨hW39, kp43⟩
theorem dX6_choose_41 : decode cX6_choose 41 = .ok (.aload_n 0, 1) := by decide +kernel
theorem dX6_choose_42 : decode cX6_choose 42 = .ok (.getfield 43, 3) := by decide +kernel
theorem dX6_choose_45 : decode cX6_choose 45 = .ok (.iload_n 1, 1) := by decide +kernel
theorem dX6_choose_46 : decode cX6_choose 46 = .ok (.iconst 0, 1) := by decide +kernel
theorem dX6_choose_47 : decode cX6_choose 47 = .ok (.iastore, 1) := by decide +kernel
theorem dX6_choose_48 : decode cX6_choose 48 = .ok (.iload_n 3, 1) := by decide +kernel
theorem dX6_choose_49 : decode cX6_choose 49 = .ok (.aload_n 0, 1) := by decide +kernel
theorem dX6_choose_50 : decode cX6_choose 50 = .ok (.getfield 40, 3) := by decide +kernel
theorem dX6_choose_53 : decode cX6_choose 53 = .ok (.iload_n 1, 1) := by decide +kernel
theorem dX6_choose_54 : decode cX6_choose 54 = .ok (.bipush 11, 2) := by decide +kernel
theorem dX6_choose_56 : decode cX6_choose 56 = .ok (.imul, 1) := by decide +kernel
theorem dX6_choose_57 : decode cX6_choose 57 = .ok (.iload_n 2, 1) := by decide +kernel
theorem dX6_choose_58 : decode cX6_choose 58 = .ok (.invokestatic 99, 3) := by decide +kernel
theorem dX6_choose_61 : decode cX6_choose 61 = .ok (.iadd, 1) := by decide +kernel
theorem dX6_choose_62 : decode cX6_choose 62 = .ok (.iaload, 1) := by decide +kernel
theorem dX6_choose_63 : decode cX6_choose 63 = .ok (.iadd, 1) := by decide +kernel
theorem dX6_choose_64 : decode cX6_choose 64 = .ok (.istore 4, 2) := by decide +kernel
theorem dX6_choose_66 : decode cX6_choose 66 = .ok (.iload 4, 2) := by decide +kernel
theorem dX6_choose_68 : decode cX6_choose 68 = .ok (.aload_n 0, 1) := by decide +kernel
theorem dX6_choose_69 : decode cX6_choose 69 = .ok (.getfield 49, 3) := by decide +kernel
theorem dX6_choose_72 : decode cX6_choose 72 = .ok (.if_icmp .le 12, 3) := by decide +kernel
theorem dX6_choose_75 : decode cX6_choose 75 = .ok (.aload_n 0, 1) := by decide +kernel
theorem dX6_choose_76 : decode cX6_choose 76 = .ok (.iload_n 1, 1) := by decide +kernel
theorem dX6_choose_77 : decode cX6_choose 77 = .ok (.iconst 1, 1) := by decide +kernel
theorem dX6_choose_78 : decode cX6_choose 78 = .ok (.iadd, 1) := by decide +kernel
theorem dX6_choose_79 : decode cX6_choose 79 = .ok (.iload_n 2, 1) := by decide +kernel
theorem dX6_choose_80 : decode cX6_choose 80 = .ok (.iload_n 3, 1) := by decide +kernel
theorem dX6_choose_81 : decode cX6_choose 81 = .ok (.invokevirtual 80, 3) := by decide +kernel
theorem dX6_choose_84 : decode cX6_choose 84 = .ok (.iconst 0, 1) := by decide +kernel
theorem dX6_choose_85 : decode cX6_choose 85 = .ok (.istore 5, 2) := by decide +kernel
theorem dX6_choose_87 : decode cX6_choose 87 = .ok (.iload 5, 2) := by decide +kernel
theorem dX6_choose_89 : decode cX6_choose 89 = .ok (.aload_n 0, 1) := by decide +kernel
theorem dX6_choose_90 : decode cX6_choose 90 = .ok (.getfield 34, 3) := by decide +kernel
theorem dX6_choose_93 : decode cX6_choose 93 = .ok (.iload_n 1, 1) := by decide +kernel
theorem dX6_choose_94 : decode cX6_choose 94 = .ok (.iaload, 1) := by decide +kernel
theorem dX6_choose_95 : decode cX6_choose 95 = .ok (.if_icmp .ge 75, 3) := by decide +kernel
theorem dX6_choose_98 : decode cX6_choose 98 = .ok (.iload 4, 2) := by decide +kernel
theorem dX6_choose_100 : decode cX6_choose 100 = .ok (.aload_n 0, 1) := by decide +kernel
theorem dX6_choose_101 : decode cX6_choose 101 = .ok (.getfield 49, 3) := by decide +kernel
theorem dX6_choose_104 : decode cX6_choose 104 = .ok (.if_icmp .le 66, 3) := by decide +kernel
theorem dX6_choose_107 : decode cX6_choose 107 = .ok (.aload_n 0, 1) := by decide +kernel
theorem dX6_choose_108 : decode cX6_choose 108 = .ok (.getfield 31, 3) := by decide +kernel
theorem dX6_choose_111 : decode cX6_choose 111 = .ok (.iload_n 1, 1) := by decide +kernel
theorem dX6_choose_112 : decode cX6_choose 112 = .ok (.sipush 252, 3) := by decide +kernel
theorem dX6_choose_115 : decode cX6_choose 115 = .ok (.imul, 1) := by decide +kernel
theorem dX6_choose_116 : decode cX6_choose 116 = .ok (.iload 5, 2) := by decide +kernel
theorem dX6_choose_118 : decode cX6_choose 118 = .ok (.iadd, 1) := by decide +kernel
theorem dX6_choose_119 : decode cX6_choose 119 = .ok (.iaload, 1) := by decide +kernel
theorem dX6_choose_120 : decode cX6_choose 120 = .ok (.istore 6, 2) := by decide +kernel
theorem dX6_choose_122 : decode cX6_choose 122 = .ok (.iload 6, 2) := by decide +kernel
theorem dX6_choose_124 : decode cX6_choose 124 = .ok (.iload_n 2, 1) := by decide +kernel
theorem dX6_choose_125 : decode cX6_choose 125 = .ok (.iconst (-1), 1) := by decide +kernel
theorem dX6_choose_126 : decode cX6_choose 126 = .ok (.ixor, 1) := by decide +kernel
theorem dX6_choose_127 : decode cX6_choose 127 = .ok (.iand, 1) := by decide +kernel
theorem dX6_choose_128 : decode cX6_choose 128 = .ok (.ifCond .ne 36, 3) := by decide +kernel
theorem dX6_choose_131 : decode cX6_choose 131 = .ok (.aload_n 0, 1) := by decide +kernel
theorem dX6_choose_132 : decode cX6_choose 132 = .ok (.getfield 43, 3) := by decide +kernel
theorem dX6_choose_135 : decode cX6_choose 135 = .ok (.iload_n 1, 1) := by decide +kernel
theorem dX6_choose_136 : decode cX6_choose 136 = .ok (.iload 6, 2) := by decide +kernel
theorem dX6_choose_138 : decode cX6_choose 138 = .ok (.iastore, 1) := by decide +kernel
theorem dX6_choose_139 : decode cX6_choose 139 = .ok (.aload_n 0, 1) := by decide +kernel
theorem dX6_choose_140 : decode cX6_choose 140 = .ok (.iload_n 1, 1) := by decide +kernel
theorem dX6_choose_141 : decode cX6_choose 141 = .ok (.iconst 1, 1) := by decide +kernel
theorem dX6_choose_142 : decode cX6_choose 142 = .ok (.iadd, 1) := by decide +kernel
theorem dX6_choose_143 : decode cX6_choose 143 = .ok (.iload_n 2, 1) := by decide +kernel
theorem dX6_choose_144 : decode cX6_choose 144 = .ok (.iload 6, 2) := by decide +kernel
theorem dX6_choose_146 : decode cX6_choose 146 = .ok (.iconst (-1), 1) := by decide +kernel
theorem dX6_choose_147 : decode cX6_choose 147 = .ok (.ixor, 1) := by decide +kernel
theorem dX6_choose_148 : decode cX6_choose 148 = .ok (.iand, 1) := by decide +kernel
theorem dX6_choose_149 : decode cX6_choose 149 = .ok (.iload_n 3, 1) := by decide +kernel
theorem dX6_choose_150 : decode cX6_choose 150 = .ok (.aload_n 0, 1) := by decide +kernel
theorem dX6_choose_151 : decode cX6_choose 151 = .ok (.iload_n 1, 1) := by decide +kernel
theorem dX6_choose_152 : decode cX6_choose 152 = .ok (.iload 6, 2) := by decide +kernel
theorem dX6_choose_154 : decode cX6_choose 154 = .ok (.invokestatic 99, 3) := by decide +kernel
theorem dX6_choose_157 : decode cX6_choose 157 = .ok (.invokevirtual 111, 3) := by decide +kernel
theorem dX6_choose_160 : decode cX6_choose 160 = .ok (.iadd, 1) := by decide +kernel
theorem dX6_choose_161 : decode cX6_choose 161 = .ok (.invokevirtual 80, 3) := by decide +kernel
theorem dX6_choose_164 : decode cX6_choose 164 = .ok (.iinc 5 1, 3) := by decide +kernel
theorem dX6_choose_167 : decode cX6_choose 167 = .ok (.goto (-80), 3) := by decide +kernel
theorem dX6_choose_170 : decode cX6_choose 170 = .ok (.return_, 1) := by decide +kernel
set_option maxRecDepth 20000 in
set_option maxHeartbeats 4000000 in
theorem c_choose3 (E : xE) (l : Launch) (a : Nat → Nat) (ws : va_W) (hW : WX (okX E a) ws) (f0 : Nat) (p2 : Int32) (hf0 : f0 < 1024) : xV E l yX6_choose cX6_choose 7 2 0 0 [.ref (a 92), .int 3, .int (nI f0), .int p2] ws (fun w => WX (okX E a) w ∧ keeps ws w (fun q => q = 92 ∨ q = 101 ∨ q = 102)) := by
  refine xV_start (lv := [(0, .ref (a 92)), (1, .int 3), (2, .int (nI f0)), (3, .int p2)]) RX6 (by decide) rfl (Nat.le_of_ble_eq_true rfl) rfl (fun p e s m below meth c A C hr hlk hin => ?_)
  have kp0 : keeps ws ws (fun q => q = 92 ∨ q = 101 ∨ q = 102) := keeps_rf
  refine x_iload_n C dX6_choose_0 rfl 1 rfl rfl ?_
  refine x_aload_n C dX6_choose_1 rfl 0 rfl rfl ?_
  obtain ⟨_, k1, n2, n4, v6, bn3, bn5, rfl⟩ := hW 92 _ rfl
  refine x_get C (ci := 5) (k := 3) 92 k1 rfl in_X6 (by decide) w_323 rfl dX6_choose_2 rfl ?_
  refine x_icmp_ge C (tgt := 13) dX6_choose_5 (by decide) rfl (fun c7 => ?_) (fun c7 => ?_)
  · skip
    have nf8 := nI_le' (a := n4) (b := 3) c7 (by omega) (by omega)
    refine x_iload_n C dX6_choose_13 rfl 3 rfl rfl ?_
    refine x_aload_n C dX6_choose_14 rfl 0 rfl rfl ?_
    refine x_get C (ci := 5) (k := 12) 92 k1 rfl in_X6 (by decide) w_332 rfl dX6_choose_15 rfl ?_
    refine x_icmp_le C (tgt := 40) dX6_choose_18 (by decide) rfl (fun c9 => ?_) (fun c9 => ?_)
    · skip
      exact x_vret C hr hlk dX6_choose_40 ⟨hW, kp0⟩
    · skip
      refine x_aload_n C dX6_choose_21 rfl 0 rfl rfl ?_
      refine x_iload_n C dX6_choose_22 rfl 3 rfl rfl ?_
      obtain ⟨w10, hw11⟩ : ∃ w : va_W, w = List.set ws 92 (ob (a 92) 5 [.ref (a 93), .ref (a 94), .int (nI n2), .int (nI n4), .ref (a 95), .ref (a 96), .ref (a 97), .ref (a 98), .ref (a 99), .ref (a 100), .ref (a 101), .ref (a 102), .int p2]) := ⟨_, rfl⟩
      refine x_put C (ci := 5) (k := 12) (ty := .int) 92 k1 rfl in_X6 tyX6 tyX6_ok nmX6 (by decide) w_332 rfl rfl rfl rfl (Nat.le_of_ble_eq_true rfl) hw11.symm dX6_choose_23 rfl ?_
      have hW12 : WX (okX E a) w10 := by rw [hw11]; exact hW.set (k := 92) rfl ⟨n2, n4, p2, by omega, by omega, rfl⟩
      have k13 : w10[92]? = some (ob (a 92) 5 [.ref (a 93), .ref (a 94), .int (nI n2), .int (nI n4), .ref (a 95), .ref (a 96), .ref (a 97), .ref (a 98), .ref (a 99), .ref (a 100), .ref (a 101), .ref (a 102), .int p2]) := by rw [hw11]; exact set_eq k1
      have kp14 := keeps_set kp0 hw11 (by first | exact rfl | decide | omega | (dsimp only; omega))
      refine x_aload_n C dX6_choose_26 rfl 0 rfl rfl ?_
      refine x_get C (ci := 5) (k := 10) 92 k13 rfl in_X6 (by decide) w_330 rfl dX6_choose_27 rfl ?_
      refine x_iconst C (v := 0) dX6_choose_30 (by decide) rfl ?_
      refine x_aload_n C dX6_choose_31 rfl 0 rfl rfl ?_
      refine x_get C (ci := 5) (k := 11) 92 k13 rfl in_X6 (by decide) w_331 rfl dX6_choose_32 rfl ?_
      refine x_iconst C (v := 0) dX6_choose_35 (by decide) rfl ?_
      refine x_iconst C (v := 4) dX6_choose_36 (by decide) rfl ?_
      obtain ⟨_, k15, f16, rfl⟩ := hW12 101 _ rfl
      obtain ⟨_, k17, f18, rfl⟩ := hW12 102 _ rfl
      obtain ⟨w19, hw20⟩ : ∃ w : va_W, w = List.set w10 102 (iA E (a 102) 4 (va_cpy f16 f18 0 0 4)) := ⟨_, rfl⟩
      refine x_copy C 101 102 k15 k17 w_940 w_798 w_797 w_20 (by decide) (by decide) (by decide) (by decide) (by decide) (Nat.le_of_ble_eq_true rfl) (Nat.le_of_ble_eq_true rfl) hw20.symm dX6_choose_37 rfl ?_
      have hW21 : WX (okX E a) w19 := by rw [hw20]; exact hW12.set (k := 102) rfl ⟨_, rfl⟩
      have k22 : w19[92]? = some (ob (a 92) 5 [.ref (a 93), .ref (a 94), .int (nI n2), .int (nI n4), .ref (a 95), .ref (a 96), .ref (a 97), .ref (a 98), .ref (a 99), .ref (a 100), .ref (a 101), .ref (a 102), .int p2]) := by rw [hw20]; exact set_ne k13 (by decide)
      have k23 : w19[101]? = some (iA E (a 101) 4 f16) := by rw [hw20]; exact set_ne k15 (by decide)
      have k24 : w19[102]? = some (iA E (a 102) 4 (va_cpy f16 f18 0 0 4)) := by rw [hw20]; exact set_eq k17
      have kp25 := keeps_set kp14 hw20 (by first | exact rfl | decide | omega | (dsimp only; omega))
      exact x_vret C hr hlk dX6_choose_40 ⟨hW21, kp25⟩
  · skip
    have nf26 := nI_nle' (a := n4) (b := 3) c7 (by omega) (by omega)
    refine x_iload_n C dX6_choose_8 rfl 1 rfl rfl ?_
    refine x_iconst C (v := 4) dX6_choose_9 (by decide) rfl ?_
    refine x_icmp_lt C (tgt := 41) dX6_choose_10 (by decide) rfl (fun _ => ?_) (fun h => absurd h (by decide))
    refine x_aload_n C dX6_choose_41 rfl 0 rfl rfl ?_
    refine x_get C (ci := 5) (k := 10) 92 k1 rfl in_X6 (by decide) w_330 rfl dX6_choose_42 rfl ?_
    refine x_iload_n C dX6_choose_45 rfl 1 rfl rfl ?_
    refine x_iconst C (v := 0) dX6_choose_46 (by decide) rfl ?_
    obtain ⟨_, k27, f28, rfl⟩ := hW 101 _ rfl
    obtain ⟨w29, hw30⟩ : ∃ w : va_W, w = List.set ws 101 (iA E (a 101) 4 (upd f28 (3 : Int32).toNatClampNeg 0)) := ⟨_, rfl⟩
    refine x_iast C 101 k27 (vp_k (j := 3) (by decide) (by decide) (by decide)) hw30.symm dX6_choose_47 rfl ?_
    have hW31 : WX (okX E a) w29 := by rw [hw30]; exact hW.set (k := 101) rfl ⟨_, rfl⟩
    have k32 : w29[92]? = some (ob (a 92) 5 [.ref (a 93), .ref (a 94), .int (nI n2), .int (nI n4), .ref (a 95), .ref (a 96), .ref (a 97), .ref (a 98), .ref (a 99), .ref (a 100), .ref (a 101), .ref (a 102), .int v6]) := by rw [hw30]; exact set_ne k1 (by decide)
    have k33 : w29[101]? = some (iA E (a 101) 4 (upd f28 (3 : Int32).toNatClampNeg 0)) := by rw [hw30]; exact set_eq k27
    have kp34 := keeps_set kp0 hw30 (by first | exact rfl | decide | omega | (dsimp only; omega))
    refine x_iload_n C dX6_choose_48 rfl 3 rfl rfl ?_
    refine x_aload_n C dX6_choose_49 rfl 0 rfl rfl ?_
    refine x_get C (ci := 5) (k := 9) 92 k32 rfl in_X6 (by decide) w_329 rfl dX6_choose_50 rfl ?_
    refine x_iload_n C dX6_choose_53 rfl 1 rfl rfl ?_
    refine x_bipush C (v := 11) dX6_choose_54 (by decide) rfl ?_
    refine x_imul C (v := 33) dX6_choose_56 (by decide) rfl ?_
    refine x_iload_n C dX6_choose_57 rfl 2 rfl rfl ?_
    refine x_si C (As := [.int (nI f0)]) (rest := [.int 33, .ref (a 100), .int p2]) (c_bitCount E l a w29 hW31 ((nI f0))) mf_J6_bitCount_0f7a4 w_926 rfl rfl (Nat.le_of_ble_eq_true rfl) ⟨(Nat.le_of_ble_eq_true rfl), (Nat.le_of_ble_eq_true rfl)⟩ ⟨(Nat.le_of_ble_eq_true rfl), (Nat.le_of_ble_eq_true rfl)⟩ dX6_choose_58 rfl (fun r36 w37 h35 => ?_)
    obtain ⟨hW38, x39⟩ := h35
    refine x_ws hW38 ?_
    obtain ⟨kk40, hk41, ek42⟩ := bc_cnt (i := f0) (by omega)
    refine x_top (x39.trans ek42) ?_
    refine x_iadd C (v := (nI (33 + kk40))) dX6_choose_61 (nI_add 33 kk40) rfl ?_
    obtain ⟨_, k43, f44, rfl⟩ := hW31 100 _ rfl
    refine x_iald C (v := (f44 (nI (33 + kk40)).toNatClampNeg)) 100 k43 (vp_in_nI (by omega) (by decide)) rfl dX6_choose_62 rfl ?_
    refine x_any (fun v45 => ?_)
    refine x_iadd C (v := (p2 + v45)) dX6_choose_63 rfl rfl ?_
    refine x_any (fun v46 => ?_)
    refine x_istore C (lv' := [(4, .int v46), (0, .ref (a 92)), (1, .int 3), (2, .int (nI f0)), (3, .int p2)]) dX6_choose_64 (by decide) rfl rfl ?_
    refine x_iload C dX6_choose_66 0 rfl rfl ?_
    refine x_aload_n C dX6_choose_68 rfl 1 rfl rfl ?_
    refine x_get C (ci := 5) (k := 12) 92 k32 rfl in_X6 (by decide) w_332 rfl dX6_choose_69 rfl ?_
    refine x_icmp_le C (tgt := 84) dX6_choose_72 (by decide) rfl (fun c47 => ?_) (fun c47 => ?_)
    · skip
      refine x_iconst C (v := 0) dX6_choose_84 (by decide) rfl ?_
      refine x_istore C (lv' := [(5, .int 0), (4, .int v46), (0, .ref (a 92)), (1, .int 3), (2, .int (nI f0)), (3, .int p2)]) dX6_choose_85 (by decide) rfl rfl ?_
      have loop87 : ∀ (fu87 : Nat) (j : Nat) (wl87 : va_W), WX (okX E a) wl87 → 252 - j < fu87 → j ≤ 252 → keeps ws wl87 (fun q => q = 92 ∨ q = 101 ∨ q = 102) → X E p l e (xRm 2 0 0) s m ([.ref (a 92), .int 3, .int (nI f0), .int p2] : List Value).toArray below meth c A 7 0 0 (MQ below (va_Qv (fun w => WX (okX E a) w ∧ keeps ws w (fun q => q = 92 ∨ q = 101 ∨ q = 102)) (xB E A) A) ([.ref (a 92), .int 3, .int (nI f0), .int p2] : List Value).toArray s 0 0 A) wl87 87 [(0, .ref (a 92)), (1, .int 3), (2, .int (nI f0)), (3, .int p2), (4, .int v46), (5, .int (nI j))] [] := by
        intro fu87
        induction fu87 with
        | zero => intro j wl87 _ q; omega
        | succ fu87 ih87 =>
          intro j wl87 hWl87 me87 iv87_0 kq87
          refine x_iload C dX6_choose_87 5 rfl rfl ?_
          refine x_aload_n C dX6_choose_89 rfl 0 rfl rfl ?_
          obtain ⟨_, k48, n49, n51, v53, bn50, bn52, rfl⟩ := hWl87 92 _ rfl
          refine x_get C (ci := 5) (k := 7) 92 k48 rfl in_X6 (by decide) w_327 rfl dX6_choose_90 rfl ?_
          refine x_iload_n C dX6_choose_93 rfl 1 rfl rfl ?_
          obtain ⟨_, k54, g55, gb56, rfl⟩ := hWl87 98 _ rfl
          refine x_ialk C (v := nI (g55 3)) 3 (by decide) (by decide) (by decide) 98 k54 rfl dX6_choose_94 rfl ?_
          have bx57 := gb56 3
          refine x_icmp_ge C (tgt := 170) dX6_choose_95 (by decide) rfl (fun c58 => ?_) (fun c58 => ?_)
          · skip
            have nf59 := nI_le' (a := (g55 3)) (b := j) c58 (by omega) (by omega)
            exact x_vret C hr hlk dX6_choose_170 ⟨hWl87, kq87⟩
          · skip
            have nf60 := nI_nle' (a := (g55 3)) (b := j) c58 (by omega) (by omega)
            refine x_iload C dX6_choose_98 4 rfl rfl ?_
            refine x_aload_n C dX6_choose_100 rfl 0 rfl rfl ?_
            refine x_get C (ci := 5) (k := 12) 92 k48 rfl in_X6 (by decide) w_332 rfl dX6_choose_101 rfl ?_
            refine x_icmp_le C (tgt := 170) dX6_choose_104 (by decide) rfl (fun c61 => ?_) (fun c61 => ?_)
            · skip
              exact x_vret C hr hlk dX6_choose_170 ⟨hWl87, kq87⟩
            · skip
              refine x_aload_n C dX6_choose_107 rfl 0 rfl rfl ?_
              refine x_get C (ci := 5) (k := 6) 92 k48 rfl in_X6 (by decide) w_326 rfl dX6_choose_108 rfl ?_
              refine x_iload_n C dX6_choose_111 rfl 1 rfl rfl ?_
              refine x_sipush C (v := 252) dX6_choose_112 (by decide) rfl ?_
              refine x_imul C (v := 756) dX6_choose_115 (by decide) rfl ?_
              refine x_iload C dX6_choose_116 5 rfl rfl ?_
              refine x_iadd C (v := (nI (756 + j))) dX6_choose_118 (nI_add 756 j) rfl ?_
              obtain ⟨_, k62, f63, rfl⟩ := hWl87 97 _ rfl
              refine x_iald C (v := (f63 (nI (756 + j)).toNatClampNeg)) 97 k62 (vp_in_nI (by omega) (by decide)) rfl dX6_choose_119 rfl ?_
              refine x_any (fun v64 => ?_)
              refine x_istore C (lv' := [(6, .int v64), (0, .ref (a 92)), (1, .int 3), (2, .int (nI f0)), (3, .int p2), (4, .int v46), (5, .int (nI j))]) dX6_choose_120 (by decide) rfl rfl ?_
              refine x_iload C dX6_choose_122 0 rfl rfl ?_
              refine x_iload_n C dX6_choose_124 rfl 3 rfl rfl ?_
              refine x_iconst C (v := (-1)) dX6_choose_125 (by decide) rfl ?_
              refine x_ixor C (v := ((nI f0) ^^^ ((-1) : Int32))) dX6_choose_126 rfl rfl ?_
              refine x_any (fun v65 => ?_)
              refine x_iand C (v := (v64 &&& v65)) dX6_choose_127 rfl rfl ?_
              refine x_any (fun v66 => ?_)
              refine x_if_ne C (tgt := 164) dX6_choose_128 (by decide) rfl (fun c67 => ?_) (fun c67 => ?_)
              · skip
                refine x_iinc C (v := (nI (j + 1))) (lv' := [(5, .int (nI (j + 1))), (6, .int v64), (0, .ref (a 92)), (1, .int 3), (2, .int (nI f0)), (3, .int p2), (4, .int v46)]) dX6_choose_164 6 rfl (nI_add j 1) (by decide) rfl rfl ?_
                refine x_goto C (tgt := 87) dX6_choose_167 (by decide) ?_
                refine x_lv (lv1 := [(0, .ref (a 92)), (1, .int 3), (2, .int (nI f0)), (3, .int p2), (4, .int v46), (5, .int (nI (j + 1)))]) [2, 3, 4, 5, 6, 0] rfl ?_
                exact ih87 (j + 1) wl87 hWl87 (by omega) (by omega) kq87
              · skip
                refine x_aload_n C dX6_choose_131 rfl 1 rfl rfl ?_
                refine x_get C (ci := 5) (k := 10) 92 k48 rfl in_X6 (by decide) w_330 rfl dX6_choose_132 rfl ?_
                refine x_iload_n C dX6_choose_135 rfl 2 rfl rfl ?_
                refine x_iload C dX6_choose_136 0 rfl rfl ?_
                obtain ⟨_, k68, f69, rfl⟩ := hWl87 101 _ rfl
                obtain ⟨w70, hw71⟩ : ∃ w : va_W, w = List.set wl87 101 (iA E (a 101) 4 (upd f69 (3 : Int32).toNatClampNeg v64)) := ⟨_, rfl⟩
                refine x_iast C 101 k68 (vp_k (j := 3) (by decide) (by decide) (by decide)) hw71.symm dX6_choose_138 rfl ?_
                have hW72 : WX (okX E a) w70 := by rw [hw71]; exact hWl87.set (k := 101) rfl ⟨_, rfl⟩
                have k73 : w70[92]? = some (ob (a 92) 5 [.ref (a 93), .ref (a 94), .int (nI n49), .int (nI n51), .ref (a 95), .ref (a 96), .ref (a 97), .ref (a 98), .ref (a 99), .ref (a 100), .ref (a 101), .ref (a 102), .int v53]) := by rw [hw71]; exact set_ne k48 (by decide)
                have k74 : w70[98]? = some (iA E (a 98) 4 (fun j => nI (g55 j))) := by rw [hw71]; exact set_ne k54 (by decide)
                have k75 : w70[97]? = some (iA E (a 97) 1008 f63) := by rw [hw71]; exact set_ne k62 (by decide)
                have k76 : w70[101]? = some (iA E (a 101) 4 (upd f69 (3 : Int32).toNatClampNeg v64)) := by rw [hw71]; exact set_eq k68
                have kp77 := keeps_set kq87 hw71 (by first | exact rfl | decide | omega | (dsimp only; omega))
                refine x_aload_n C dX6_choose_139 rfl 1 rfl rfl ?_
                refine x_iload_n C dX6_choose_140 rfl 2 rfl rfl ?_
                refine x_iconst C (v := 1) dX6_choose_141 (by decide) rfl ?_
                refine x_iadd C (v := 4) dX6_choose_142 (by decide) rfl ?_
                refine x_iload_n C dX6_choose_143 rfl 3 rfl rfl ?_
                refine x_iload C dX6_choose_144 0 rfl rfl ?_
                refine x_iconst C (v := (-1)) dX6_choose_146 (by decide) rfl ?_
                refine x_ixor C (v := (v64 ^^^ ((-1) : Int32))) dX6_choose_147 rfl rfl ?_
                refine x_any (fun v78 => ?_)
                obtain ⟨z79, hz80, ez81⟩ := and_low (f := f0) (by omega) v78
                refine x_iand C (v := (nI z79)) dX6_choose_148 ez81 rfl ?_
                refine x_iload_n C dX6_choose_149 rfl 4 rfl rfl ?_
                refine x_aload_n C dX6_choose_150 rfl 1 rfl rfl ?_
                refine x_iload_n C dX6_choose_151 rfl 2 rfl rfl ?_
                refine x_iload C dX6_choose_152 0 rfl rfl ?_
                refine x_si C (As := [.int v64]) (rest := [.int 3, .ref (a 92), .int p2, .int (nI z79), .int 4, .ref (a 92)]) (c_bitCount E l a w70 hW72 v64) mf_J6_bitCount_0f7a4 w_926 rfl rfl (Nat.le_of_ble_eq_true rfl) ⟨(Nat.le_of_ble_eq_true rfl), (Nat.le_of_ble_eq_true rfl)⟩ ⟨(Nat.le_of_ble_eq_true rfl), (Nat.le_of_ble_eq_true rfl)⟩ dX6_choose_154 rfl (fun r83 w84 h82 => ?_)
                obtain ⟨hW85, x86⟩ := h82
                refine x_ws hW85 ?_
                refine x_vi C (As := [.int 3, .int r83]) (rest := [.int p2, .int (nI z79), .int 4, .ref (a 92)]) (c_gain E l a w70 hW72 3 r83 (by omega)) mf_X6_gain w_931 92 k73 rfl rfl rfl (Nat.le_of_ble_eq_true rfl) ⟨(Nat.le_of_ble_eq_true rfl), (Nat.le_of_ble_eq_true rfl)⟩ ⟨(Nat.le_of_ble_eq_true rfl), (Nat.le_of_ble_eq_true rfl)⟩ dX6_choose_157 rfl (fun r88 w89 h87 => ?_)
                have hW90 := h87
                refine x_ws hW90 ?_
                refine x_iadd C (v := (p2 + r88)) dX6_choose_160 rfl rfl ?_
                refine x_any (fun v91 => ?_)
                refine x_vv C (As := [.int 4, .int (nI z79), .int v91]) (rest := []) (c_choose4 E l a w70 hW72 z79 v91 (by omega)) mf_X6_choose w_936 92 k73 rfl rfl rfl (Nat.le_of_ble_eq_true rfl) ⟨(Nat.le_of_ble_eq_true rfl), (Nat.le_of_ble_eq_true rfl)⟩ ⟨(Nat.le_of_ble_eq_true rfl), (Nat.le_of_ble_eq_true rfl)⟩ dX6_choose_161 rfl (fun w94 h92 => ?_)
                obtain ⟨hW95, kq96⟩ := h92
                have k97 : w94[98]? = some (iA E (a 98) 4 (fun j => nI (g55 j))) := keeps_at kq96 k74 (by first | decide | omega | (dsimp only; omega))
                have k98 : w94[97]? = some (iA E (a 97) 1008 f63) := keeps_at kq96 k75 (by first | decide | omega | (dsimp only; omega))
                have kp99 := keeps_tr kp77 kq96 (fun q hq => by first | omega | (dsimp only at *; omega))
                refine x_iinc C (v := (nI (j + 1))) (lv' := [(5, .int (nI (j + 1))), (6, .int v64), (0, .ref (a 92)), (1, .int 3), (2, .int (nI f0)), (3, .int p2), (4, .int v46)]) dX6_choose_164 6 rfl (nI_add j 1) (by decide) rfl rfl ?_
                refine x_goto C (tgt := 87) dX6_choose_167 (by decide) ?_
                refine x_lv (lv1 := [(0, .ref (a 92)), (1, .int 3), (2, .int (nI f0)), (3, .int p2), (4, .int v46), (5, .int (nI (j + 1)))]) [2, 3, 4, 5, 6, 0] rfl ?_
                exact ih87 (j + 1) w94 hW95 (by omega) (by omega) kp99
      refine x_lv (lv1 := [(0, .ref (a 92)), (1, .int 3), (2, .int (nI f0)), (3, .int p2), (4, .int v46), (5, .int 0)]) [2, 3, 4, 5, 1, 0] rfl ?_
      exact loop87 _ 0 w29 hW31 (Nat.lt_succ_self _) (by omega) kp34
    · skip
      refine x_aload_n C dX6_choose_75 rfl 1 rfl rfl ?_
      refine x_iload_n C dX6_choose_76 rfl 2 rfl rfl ?_
      refine x_iconst C (v := 1) dX6_choose_77 (by decide) rfl ?_
      refine x_iadd C (v := 4) dX6_choose_78 (by decide) rfl ?_
      refine x_iload_n C dX6_choose_79 rfl 3 rfl rfl ?_
      refine x_iload_n C dX6_choose_80 rfl 4 rfl rfl ?_
      refine x_vv C (As := [.int 4, .int (nI f0), .int p2]) (rest := []) (c_choose4 E l a w29 hW31 f0 p2 (by omega)) mf_X6_choose w_936 92 k32 rfl rfl rfl (Nat.le_of_ble_eq_true rfl) ⟨(Nat.le_of_ble_eq_true rfl), (Nat.le_of_ble_eq_true rfl)⟩ ⟨(Nat.le_of_ble_eq_true rfl), (Nat.le_of_ble_eq_true rfl)⟩ dX6_choose_81 rfl (fun w102 h100 => ?_)
      obtain ⟨hW103, kq104⟩ := h100
      have k105 : w102[100]? = some (iA E (a 100) 55 f44) := keeps_at kq104 k43 (by first | decide | omega | (dsimp only; omega))
      have kp106 := keeps_tr kp34 kq104 (fun q hq => by first | omega | (dsimp only at *; omega))
      refine x_iconst C (v := 0) dX6_choose_84 (by decide) rfl ?_
      refine x_istore C (lv' := [(5, .int 0), (4, .int v46), (0, .ref (a 92)), (1, .int 3), (2, .int (nI f0)), (3, .int p2)]) dX6_choose_85 (by decide) rfl rfl ?_
      have loop87 : ∀ (fu87 : Nat) (j : Nat) (wl87 : va_W), WX (okX E a) wl87 → 252 - j < fu87 → j ≤ 252 → keeps ws wl87 (fun q => q = 92 ∨ q = 101 ∨ q = 102) → X E p l e (xRm 2 0 0) s m ([.ref (a 92), .int 3, .int (nI f0), .int p2] : List Value).toArray below meth c A 7 0 0 (MQ below (va_Qv (fun w => WX (okX E a) w ∧ keeps ws w (fun q => q = 92 ∨ q = 101 ∨ q = 102)) (xB E A) A) ([.ref (a 92), .int 3, .int (nI f0), .int p2] : List Value).toArray s 0 0 A) wl87 87 [(0, .ref (a 92)), (1, .int 3), (2, .int (nI f0)), (3, .int p2), (4, .int v46), (5, .int (nI j))] [] := by
        intro fu87
        induction fu87 with
        | zero => intro j wl87 _ q; omega
        | succ fu87 ih87 =>
          intro j wl87 hWl87 me87 iv87_0 kq87
          refine x_iload C dX6_choose_87 5 rfl rfl ?_
          refine x_aload_n C dX6_choose_89 rfl 0 rfl rfl ?_
          obtain ⟨_, k107, n108, n110, v112, bn109, bn111, rfl⟩ := hWl87 92 _ rfl
          refine x_get C (ci := 5) (k := 7) 92 k107 rfl in_X6 (by decide) w_327 rfl dX6_choose_90 rfl ?_
          refine x_iload_n C dX6_choose_93 rfl 1 rfl rfl ?_
          obtain ⟨_, k113, g114, gb115, rfl⟩ := hWl87 98 _ rfl
          refine x_ialk C (v := nI (g114 3)) 3 (by decide) (by decide) (by decide) 98 k113 rfl dX6_choose_94 rfl ?_
          have bx116 := gb115 3
          refine x_icmp_ge C (tgt := 170) dX6_choose_95 (by decide) rfl (fun c117 => ?_) (fun c117 => ?_)
          · skip
            have nf118 := nI_le' (a := (g114 3)) (b := j) c117 (by omega) (by omega)
            exact x_vret C hr hlk dX6_choose_170 ⟨hWl87, kq87⟩
          · skip
            have nf119 := nI_nle' (a := (g114 3)) (b := j) c117 (by omega) (by omega)
            refine x_iload C dX6_choose_98 4 rfl rfl ?_
            refine x_aload_n C dX6_choose_100 rfl 0 rfl rfl ?_
            refine x_get C (ci := 5) (k := 12) 92 k107 rfl in_X6 (by decide) w_332 rfl dX6_choose_101 rfl ?_
            refine x_icmp_le C (tgt := 170) dX6_choose_104 (by decide) rfl (fun c120 => ?_) (fun c120 => ?_)
            · skip
              exact x_vret C hr hlk dX6_choose_170 ⟨hWl87, kq87⟩
            · skip
              refine x_aload_n C dX6_choose_107 rfl 0 rfl rfl ?_
              refine x_get C (ci := 5) (k := 6) 92 k107 rfl in_X6 (by decide) w_326 rfl dX6_choose_108 rfl ?_
              refine x_iload_n C dX6_choose_111 rfl 1 rfl rfl ?_
              refine x_sipush C (v := 252) dX6_choose_112 (by decide) rfl ?_
              refine x_imul C (v := 756) dX6_choose_115 (by decide) rfl ?_
              refine x_iload C dX6_choose_116 5 rfl rfl ?_
              refine x_iadd C (v := (nI (756 + j))) dX6_choose_118 (nI_add 756 j) rfl ?_
              obtain ⟨_, k121, f122, rfl⟩ := hWl87 97 _ rfl
              refine x_iald C (v := (f122 (nI (756 + j)).toNatClampNeg)) 97 k121 (vp_in_nI (by omega) (by decide)) rfl dX6_choose_119 rfl ?_
              refine x_any (fun v123 => ?_)
              refine x_istore C (lv' := [(6, .int v123), (0, .ref (a 92)), (1, .int 3), (2, .int (nI f0)), (3, .int p2), (4, .int v46), (5, .int (nI j))]) dX6_choose_120 (by decide) rfl rfl ?_
              refine x_iload C dX6_choose_122 0 rfl rfl ?_
              refine x_iload_n C dX6_choose_124 rfl 3 rfl rfl ?_
              refine x_iconst C (v := (-1)) dX6_choose_125 (by decide) rfl ?_
              refine x_ixor C (v := ((nI f0) ^^^ ((-1) : Int32))) dX6_choose_126 rfl rfl ?_
              refine x_any (fun v124 => ?_)
              refine x_iand C (v := (v123 &&& v124)) dX6_choose_127 rfl rfl ?_
              refine x_any (fun v125 => ?_)
              refine x_if_ne C (tgt := 164) dX6_choose_128 (by decide) rfl (fun c126 => ?_) (fun c126 => ?_)
              · skip
                refine x_iinc C (v := (nI (j + 1))) (lv' := [(5, .int (nI (j + 1))), (6, .int v123), (0, .ref (a 92)), (1, .int 3), (2, .int (nI f0)), (3, .int p2), (4, .int v46)]) dX6_choose_164 6 rfl (nI_add j 1) (by decide) rfl rfl ?_
                refine x_goto C (tgt := 87) dX6_choose_167 (by decide) ?_
                refine x_lv (lv1 := [(0, .ref (a 92)), (1, .int 3), (2, .int (nI f0)), (3, .int p2), (4, .int v46), (5, .int (nI (j + 1)))]) [2, 3, 4, 5, 6, 0] rfl ?_
                exact ih87 (j + 1) wl87 hWl87 (by omega) (by omega) kq87
              · skip
                refine x_aload_n C dX6_choose_131 rfl 1 rfl rfl ?_
                refine x_get C (ci := 5) (k := 10) 92 k107 rfl in_X6 (by decide) w_330 rfl dX6_choose_132 rfl ?_
                refine x_iload_n C dX6_choose_135 rfl 2 rfl rfl ?_
                refine x_iload C dX6_choose_136 0 rfl rfl ?_
                obtain ⟨_, k127, f128, rfl⟩ := hWl87 101 _ rfl
                obtain ⟨w129, hw130⟩ : ∃ w : va_W, w = List.set wl87 101 (iA E (a 101) 4 (upd f128 (3 : Int32).toNatClampNeg v123)) := ⟨_, rfl⟩
                refine x_iast C 101 k127 (vp_k (j := 3) (by decide) (by decide) (by decide)) hw130.symm dX6_choose_138 rfl ?_
                have hW131 : WX (okX E a) w129 := by rw [hw130]; exact hWl87.set (k := 101) rfl ⟨_, rfl⟩
                have k132 : w129[92]? = some (ob (a 92) 5 [.ref (a 93), .ref (a 94), .int (nI n108), .int (nI n110), .ref (a 95), .ref (a 96), .ref (a 97), .ref (a 98), .ref (a 99), .ref (a 100), .ref (a 101), .ref (a 102), .int v112]) := by rw [hw130]; exact set_ne k107 (by decide)
                have k133 : w129[98]? = some (iA E (a 98) 4 (fun j => nI (g114 j))) := by rw [hw130]; exact set_ne k113 (by decide)
                have k134 : w129[97]? = some (iA E (a 97) 1008 f122) := by rw [hw130]; exact set_ne k121 (by decide)
                have k135 : w129[101]? = some (iA E (a 101) 4 (upd f128 (3 : Int32).toNatClampNeg v123)) := by rw [hw130]; exact set_eq k127
                have kp136 := keeps_set kq87 hw130 (by first | exact rfl | decide | omega | (dsimp only; omega))
                refine x_aload_n C dX6_choose_139 rfl 1 rfl rfl ?_
                refine x_iload_n C dX6_choose_140 rfl 2 rfl rfl ?_
                refine x_iconst C (v := 1) dX6_choose_141 (by decide) rfl ?_
                refine x_iadd C (v := 4) dX6_choose_142 (by decide) rfl ?_
                refine x_iload_n C dX6_choose_143 rfl 3 rfl rfl ?_
                refine x_iload C dX6_choose_144 0 rfl rfl ?_
                refine x_iconst C (v := (-1)) dX6_choose_146 (by decide) rfl ?_
                refine x_ixor C (v := (v123 ^^^ ((-1) : Int32))) dX6_choose_147 rfl rfl ?_
                refine x_any (fun v137 => ?_)
                obtain ⟨z138, hz139, ez140⟩ := and_low (f := f0) (by omega) v137
                refine x_iand C (v := (nI z138)) dX6_choose_148 ez140 rfl ?_
                refine x_iload_n C dX6_choose_149 rfl 4 rfl rfl ?_
                refine x_aload_n C dX6_choose_150 rfl 1 rfl rfl ?_
                refine x_iload_n C dX6_choose_151 rfl 2 rfl rfl ?_
                refine x_iload C dX6_choose_152 0 rfl rfl ?_
                refine x_si C (As := [.int v123]) (rest := [.int 3, .ref (a 92), .int p2, .int (nI z138), .int 4, .ref (a 92)]) (c_bitCount E l a w129 hW131 v123) mf_J6_bitCount_0f7a4 w_926 rfl rfl (Nat.le_of_ble_eq_true rfl) ⟨(Nat.le_of_ble_eq_true rfl), (Nat.le_of_ble_eq_true rfl)⟩ ⟨(Nat.le_of_ble_eq_true rfl), (Nat.le_of_ble_eq_true rfl)⟩ dX6_choose_154 rfl (fun r142 w143 h141 => ?_)
                obtain ⟨hW144, x145⟩ := h141
                refine x_ws hW144 ?_
                refine x_vi C (As := [.int 3, .int r142]) (rest := [.int p2, .int (nI z138), .int 4, .ref (a 92)]) (c_gain E l a w129 hW131 3 r142 (by omega)) mf_X6_gain w_931 92 k132 rfl rfl rfl (Nat.le_of_ble_eq_true rfl) ⟨(Nat.le_of_ble_eq_true rfl), (Nat.le_of_ble_eq_true rfl)⟩ ⟨(Nat.le_of_ble_eq_true rfl), (Nat.le_of_ble_eq_true rfl)⟩ dX6_choose_157 rfl (fun r147 w148 h146 => ?_)
                have hW149 := h146
                refine x_ws hW149 ?_
                refine x_iadd C (v := (p2 + r147)) dX6_choose_160 rfl rfl ?_
                refine x_any (fun v150 => ?_)
                refine x_vv C (As := [.int 4, .int (nI z138), .int v150]) (rest := []) (c_choose4 E l a w129 hW131 z138 v150 (by omega)) mf_X6_choose w_936 92 k132 rfl rfl rfl (Nat.le_of_ble_eq_true rfl) ⟨(Nat.le_of_ble_eq_true rfl), (Nat.le_of_ble_eq_true rfl)⟩ ⟨(Nat.le_of_ble_eq_true rfl), (Nat.le_of_ble_eq_true rfl)⟩ dX6_choose_161 rfl (fun w153 h151 => ?_)
                obtain ⟨hW154, kq155⟩ := h151
                have k156 : w153[98]? = some (iA E (a 98) 4 (fun j => nI (g114 j))) := keeps_at kq155 k133 (by first | decide | omega | (dsimp only; omega))
                have k157 : w153[97]? = some (iA E (a 97) 1008 f122) := keeps_at kq155 k134 (by first | decide | omega | (dsimp only; omega))
                have kp158 := keeps_tr kp136 kq155 (fun q hq => by first | omega | (dsimp only at *; omega))
                refine x_iinc C (v := (nI (j + 1))) (lv' := [(5, .int (nI (j + 1))), (6, .int v123), (0, .ref (a 92)), (1, .int 3), (2, .int (nI f0)), (3, .int p2), (4, .int v46)]) dX6_choose_164 6 rfl (nI_add j 1) (by decide) rfl rfl ?_
                refine x_goto C (tgt := 87) dX6_choose_167 (by decide) ?_
                refine x_lv (lv1 := [(0, .ref (a 92)), (1, .int 3), (2, .int (nI f0)), (3, .int p2), (4, .int v46), (5, .int (nI (j + 1)))]) [2, 3, 4, 5, 6, 0] rfl ?_
                exact ih87 (j + 1) w153 hW154 (by omega) (by omega) kp158
      refine x_lv (lv1 := [(0, .ref (a 92)), (1, .int 3), (2, .int (nI f0)), (3, .int p2), (4, .int v46), (5, .int 0)]) [2, 3, 4, 5, 1, 0] rfl ?_
      exact loop87 _ 0 w102 hW103 (Nat.lt_succ_self _) (by omega) kp106
set_option maxRecDepth 20000 in
set_option maxHeartbeats 4000000 in
theorem c_choose2 (E : xE) (l : Launch) (a : Nat → Nat) (ws : va_W) (hW : WX (okX E a) ws) (f0 : Nat) (p2 : Int32) (hf0 : f0 < 1024) : xV E l yX6_choose cX6_choose 7 3 0 0 [.ref (a 92), .int 2, .int (nI f0), .int p2] ws (fun w => WX (okX E a) w ∧ keeps ws w (fun q => q = 92 ∨ q = 101 ∨ q = 102)) := by
  refine xV_start (lv := [(0, .ref (a 92)), (1, .int 2), (2, .int (nI f0)), (3, .int p2)]) RX6 (by decide) rfl (Nat.le_of_ble_eq_true rfl) rfl (fun p e s m below meth c A C hr hlk hin => ?_)
  have kp0 : keeps ws ws (fun q => q = 92 ∨ q = 101 ∨ q = 102) := keeps_rf
  refine x_iload_n C dX6_choose_0 rfl 1 rfl rfl ?_
  refine x_aload_n C dX6_choose_1 rfl 0 rfl rfl ?_
  obtain ⟨_, k1, n2, n4, v6, bn3, bn5, rfl⟩ := hW 92 _ rfl
  refine x_get C (ci := 5) (k := 3) 92 k1 rfl in_X6 (by decide) w_323 rfl dX6_choose_2 rfl ?_
  refine x_icmp_ge C (tgt := 13) dX6_choose_5 (by decide) rfl (fun c7 => ?_) (fun c7 => ?_)
  · skip
    have nf8 := nI_le' (a := n4) (b := 2) c7 (by omega) (by omega)
    refine x_iload_n C dX6_choose_13 rfl 3 rfl rfl ?_
    refine x_aload_n C dX6_choose_14 rfl 0 rfl rfl ?_
    refine x_get C (ci := 5) (k := 12) 92 k1 rfl in_X6 (by decide) w_332 rfl dX6_choose_15 rfl ?_
    refine x_icmp_le C (tgt := 40) dX6_choose_18 (by decide) rfl (fun c9 => ?_) (fun c9 => ?_)
    · skip
      exact x_vret C hr hlk dX6_choose_40 ⟨hW, kp0⟩
    · skip
      refine x_aload_n C dX6_choose_21 rfl 0 rfl rfl ?_
      refine x_iload_n C dX6_choose_22 rfl 3 rfl rfl ?_
      obtain ⟨w10, hw11⟩ : ∃ w : va_W, w = List.set ws 92 (ob (a 92) 5 [.ref (a 93), .ref (a 94), .int (nI n2), .int (nI n4), .ref (a 95), .ref (a 96), .ref (a 97), .ref (a 98), .ref (a 99), .ref (a 100), .ref (a 101), .ref (a 102), .int p2]) := ⟨_, rfl⟩
      refine x_put C (ci := 5) (k := 12) (ty := .int) 92 k1 rfl in_X6 tyX6 tyX6_ok nmX6 (by decide) w_332 rfl rfl rfl rfl (Nat.le_of_ble_eq_true rfl) hw11.symm dX6_choose_23 rfl ?_
      have hW12 : WX (okX E a) w10 := by rw [hw11]; exact hW.set (k := 92) rfl ⟨n2, n4, p2, by omega, by omega, rfl⟩
      have k13 : w10[92]? = some (ob (a 92) 5 [.ref (a 93), .ref (a 94), .int (nI n2), .int (nI n4), .ref (a 95), .ref (a 96), .ref (a 97), .ref (a 98), .ref (a 99), .ref (a 100), .ref (a 101), .ref (a 102), .int p2]) := by rw [hw11]; exact set_eq k1
      have kp14 := keeps_set kp0 hw11 (by first | exact rfl | decide | omega | (dsimp only; omega))
      refine x_aload_n C dX6_choose_26 rfl 0 rfl rfl ?_
      refine x_get C (ci := 5) (k := 10) 92 k13 rfl in_X6 (by decide) w_330 rfl dX6_choose_27 rfl ?_
      refine x_iconst C (v := 0) dX6_choose_30 (by decide) rfl ?_
      refine x_aload_n C dX6_choose_31 rfl 0 rfl rfl ?_
      refine x_get C (ci := 5) (k := 11) 92 k13 rfl in_X6 (by decide) w_331 rfl dX6_choose_32 rfl ?_
      refine x_iconst C (v := 0) dX6_choose_35 (by decide) rfl ?_
      refine x_iconst C (v := 4) dX6_choose_36 (by decide) rfl ?_
      obtain ⟨_, k15, f16, rfl⟩ := hW12 101 _ rfl
      obtain ⟨_, k17, f18, rfl⟩ := hW12 102 _ rfl
      obtain ⟨w19, hw20⟩ : ∃ w : va_W, w = List.set w10 102 (iA E (a 102) 4 (va_cpy f16 f18 0 0 4)) := ⟨_, rfl⟩
      refine x_copy C 101 102 k15 k17 w_940 w_798 w_797 w_20 (by decide) (by decide) (by decide) (by decide) (by decide) (Nat.le_of_ble_eq_true rfl) (Nat.le_of_ble_eq_true rfl) hw20.symm dX6_choose_37 rfl ?_
      have hW21 : WX (okX E a) w19 := by rw [hw20]; exact hW12.set (k := 102) rfl ⟨_, rfl⟩
      have k22 : w19[92]? = some (ob (a 92) 5 [.ref (a 93), .ref (a 94), .int (nI n2), .int (nI n4), .ref (a 95), .ref (a 96), .ref (a 97), .ref (a 98), .ref (a 99), .ref (a 100), .ref (a 101), .ref (a 102), .int p2]) := by rw [hw20]; exact set_ne k13 (by decide)
      have k23 : w19[101]? = some (iA E (a 101) 4 f16) := by rw [hw20]; exact set_ne k15 (by decide)
      have k24 : w19[102]? = some (iA E (a 102) 4 (va_cpy f16 f18 0 0 4)) := by rw [hw20]; exact set_eq k17
      have kp25 := keeps_set kp14 hw20 (by first | exact rfl | decide | omega | (dsimp only; omega))
      exact x_vret C hr hlk dX6_choose_40 ⟨hW21, kp25⟩
  · skip
    have nf26 := nI_nle' (a := n4) (b := 2) c7 (by omega) (by omega)
    refine x_iload_n C dX6_choose_8 rfl 1 rfl rfl ?_
    refine x_iconst C (v := 4) dX6_choose_9 (by decide) rfl ?_
    refine x_icmp_lt C (tgt := 41) dX6_choose_10 (by decide) rfl (fun _ => ?_) (fun h => absurd h (by decide))
    refine x_aload_n C dX6_choose_41 rfl 0 rfl rfl ?_
    refine x_get C (ci := 5) (k := 10) 92 k1 rfl in_X6 (by decide) w_330 rfl dX6_choose_42 rfl ?_
    refine x_iload_n C dX6_choose_45 rfl 1 rfl rfl ?_
    refine x_iconst C (v := 0) dX6_choose_46 (by decide) rfl ?_
    obtain ⟨_, k27, f28, rfl⟩ := hW 101 _ rfl
    obtain ⟨w29, hw30⟩ : ∃ w : va_W, w = List.set ws 101 (iA E (a 101) 4 (upd f28 (2 : Int32).toNatClampNeg 0)) := ⟨_, rfl⟩
    refine x_iast C 101 k27 (vp_k (j := 2) (by decide) (by decide) (by decide)) hw30.symm dX6_choose_47 rfl ?_
    have hW31 : WX (okX E a) w29 := by rw [hw30]; exact hW.set (k := 101) rfl ⟨_, rfl⟩
    have k32 : w29[92]? = some (ob (a 92) 5 [.ref (a 93), .ref (a 94), .int (nI n2), .int (nI n4), .ref (a 95), .ref (a 96), .ref (a 97), .ref (a 98), .ref (a 99), .ref (a 100), .ref (a 101), .ref (a 102), .int v6]) := by rw [hw30]; exact set_ne k1 (by decide)
    have k33 : w29[101]? = some (iA E (a 101) 4 (upd f28 (2 : Int32).toNatClampNeg 0)) := by rw [hw30]; exact set_eq k27
    have kp34 := keeps_set kp0 hw30 (by first | exact rfl | decide | omega | (dsimp only; omega))
    refine x_iload_n C dX6_choose_48 rfl 3 rfl rfl ?_
    refine x_aload_n C dX6_choose_49 rfl 0 rfl rfl ?_
    refine x_get C (ci := 5) (k := 9) 92 k32 rfl in_X6 (by decide) w_329 rfl dX6_choose_50 rfl ?_
    refine x_iload_n C dX6_choose_53 rfl 1 rfl rfl ?_
    refine x_bipush C (v := 11) dX6_choose_54 (by decide) rfl ?_
    refine x_imul C (v := 22) dX6_choose_56 (by decide) rfl ?_
    refine x_iload_n C dX6_choose_57 rfl 2 rfl rfl ?_
    refine x_si C (As := [.int (nI f0)]) (rest := [.int 22, .ref (a 100), .int p2]) (c_bitCount E l a w29 hW31 ((nI f0))) mf_J6_bitCount_0f7a4 w_926 rfl rfl (Nat.le_of_ble_eq_true rfl) ⟨(Nat.le_of_ble_eq_true rfl), (Nat.le_of_ble_eq_true rfl)⟩ ⟨(Nat.le_of_ble_eq_true rfl), (Nat.le_of_ble_eq_true rfl)⟩ dX6_choose_58 rfl (fun r36 w37 h35 => ?_)
    obtain ⟨hW38, x39⟩ := h35
    refine x_ws hW38 ?_
    obtain ⟨kk40, hk41, ek42⟩ := bc_cnt (i := f0) (by omega)
    refine x_top (x39.trans ek42) ?_
    refine x_iadd C (v := (nI (22 + kk40))) dX6_choose_61 (nI_add 22 kk40) rfl ?_
    obtain ⟨_, k43, f44, rfl⟩ := hW31 100 _ rfl
    refine x_iald C (v := (f44 (nI (22 + kk40)).toNatClampNeg)) 100 k43 (vp_in_nI (by omega) (by decide)) rfl dX6_choose_62 rfl ?_
    refine x_any (fun v45 => ?_)
    refine x_iadd C (v := (p2 + v45)) dX6_choose_63 rfl rfl ?_
    refine x_any (fun v46 => ?_)
    refine x_istore C (lv' := [(4, .int v46), (0, .ref (a 92)), (1, .int 2), (2, .int (nI f0)), (3, .int p2)]) dX6_choose_64 (by decide) rfl rfl ?_
    refine x_iload C dX6_choose_66 0 rfl rfl ?_
    refine x_aload_n C dX6_choose_68 rfl 1 rfl rfl ?_
    refine x_get C (ci := 5) (k := 12) 92 k32 rfl in_X6 (by decide) w_332 rfl dX6_choose_69 rfl ?_
    refine x_icmp_le C (tgt := 84) dX6_choose_72 (by decide) rfl (fun c47 => ?_) (fun c47 => ?_)
    · skip
      refine x_iconst C (v := 0) dX6_choose_84 (by decide) rfl ?_
      refine x_istore C (lv' := [(5, .int 0), (4, .int v46), (0, .ref (a 92)), (1, .int 2), (2, .int (nI f0)), (3, .int p2)]) dX6_choose_85 (by decide) rfl rfl ?_
      have loop87 : ∀ (fu87 : Nat) (j : Nat) (wl87 : va_W), WX (okX E a) wl87 → 252 - j < fu87 → j ≤ 252 → keeps ws wl87 (fun q => q = 92 ∨ q = 101 ∨ q = 102) → X E p l e (xRm 3 0 0) s m ([.ref (a 92), .int 2, .int (nI f0), .int p2] : List Value).toArray below meth c A 7 0 0 (MQ below (va_Qv (fun w => WX (okX E a) w ∧ keeps ws w (fun q => q = 92 ∨ q = 101 ∨ q = 102)) (xB E A) A) ([.ref (a 92), .int 2, .int (nI f0), .int p2] : List Value).toArray s 0 0 A) wl87 87 [(0, .ref (a 92)), (1, .int 2), (2, .int (nI f0)), (3, .int p2), (4, .int v46), (5, .int (nI j))] [] := by
        intro fu87
        induction fu87 with
        | zero => intro j wl87 _ q; omega
        | succ fu87 ih87 =>
          intro j wl87 hWl87 me87 iv87_0 kq87
          refine x_iload C dX6_choose_87 5 rfl rfl ?_
          refine x_aload_n C dX6_choose_89 rfl 0 rfl rfl ?_
          obtain ⟨_, k48, n49, n51, v53, bn50, bn52, rfl⟩ := hWl87 92 _ rfl
          refine x_get C (ci := 5) (k := 7) 92 k48 rfl in_X6 (by decide) w_327 rfl dX6_choose_90 rfl ?_
          refine x_iload_n C dX6_choose_93 rfl 1 rfl rfl ?_
          obtain ⟨_, k54, g55, gb56, rfl⟩ := hWl87 98 _ rfl
          refine x_ialk C (v := nI (g55 2)) 2 (by decide) (by decide) (by decide) 98 k54 rfl dX6_choose_94 rfl ?_
          have bx57 := gb56 2
          refine x_icmp_ge C (tgt := 170) dX6_choose_95 (by decide) rfl (fun c58 => ?_) (fun c58 => ?_)
          · skip
            have nf59 := nI_le' (a := (g55 2)) (b := j) c58 (by omega) (by omega)
            exact x_vret C hr hlk dX6_choose_170 ⟨hWl87, kq87⟩
          · skip
            have nf60 := nI_nle' (a := (g55 2)) (b := j) c58 (by omega) (by omega)
            refine x_iload C dX6_choose_98 4 rfl rfl ?_
            refine x_aload_n C dX6_choose_100 rfl 0 rfl rfl ?_
            refine x_get C (ci := 5) (k := 12) 92 k48 rfl in_X6 (by decide) w_332 rfl dX6_choose_101 rfl ?_
            refine x_icmp_le C (tgt := 170) dX6_choose_104 (by decide) rfl (fun c61 => ?_) (fun c61 => ?_)
            · skip
              exact x_vret C hr hlk dX6_choose_170 ⟨hWl87, kq87⟩
            · skip
              refine x_aload_n C dX6_choose_107 rfl 0 rfl rfl ?_
              refine x_get C (ci := 5) (k := 6) 92 k48 rfl in_X6 (by decide) w_326 rfl dX6_choose_108 rfl ?_
              refine x_iload_n C dX6_choose_111 rfl 1 rfl rfl ?_
              refine x_sipush C (v := 252) dX6_choose_112 (by decide) rfl ?_
              refine x_imul C (v := 504) dX6_choose_115 (by decide) rfl ?_
              refine x_iload C dX6_choose_116 5 rfl rfl ?_
              refine x_iadd C (v := (nI (504 + j))) dX6_choose_118 (nI_add 504 j) rfl ?_
              obtain ⟨_, k62, f63, rfl⟩ := hWl87 97 _ rfl
              refine x_iald C (v := (f63 (nI (504 + j)).toNatClampNeg)) 97 k62 (vp_in_nI (by omega) (by decide)) rfl dX6_choose_119 rfl ?_
              refine x_any (fun v64 => ?_)
              refine x_istore C (lv' := [(6, .int v64), (0, .ref (a 92)), (1, .int 2), (2, .int (nI f0)), (3, .int p2), (4, .int v46), (5, .int (nI j))]) dX6_choose_120 (by decide) rfl rfl ?_
              refine x_iload C dX6_choose_122 0 rfl rfl ?_
              refine x_iload_n C dX6_choose_124 rfl 3 rfl rfl ?_
              refine x_iconst C (v := (-1)) dX6_choose_125 (by decide) rfl ?_
              refine x_ixor C (v := ((nI f0) ^^^ ((-1) : Int32))) dX6_choose_126 rfl rfl ?_
              refine x_any (fun v65 => ?_)
              refine x_iand C (v := (v64 &&& v65)) dX6_choose_127 rfl rfl ?_
              refine x_any (fun v66 => ?_)
              refine x_if_ne C (tgt := 164) dX6_choose_128 (by decide) rfl (fun c67 => ?_) (fun c67 => ?_)
              · skip
                refine x_iinc C (v := (nI (j + 1))) (lv' := [(5, .int (nI (j + 1))), (6, .int v64), (0, .ref (a 92)), (1, .int 2), (2, .int (nI f0)), (3, .int p2), (4, .int v46)]) dX6_choose_164 6 rfl (nI_add j 1) (by decide) rfl rfl ?_
                refine x_goto C (tgt := 87) dX6_choose_167 (by decide) ?_
                refine x_lv (lv1 := [(0, .ref (a 92)), (1, .int 2), (2, .int (nI f0)), (3, .int p2), (4, .int v46), (5, .int (nI (j + 1)))]) [2, 3, 4, 5, 6, 0] rfl ?_
                exact ih87 (j + 1) wl87 hWl87 (by omega) (by omega) kq87
              · skip
                refine x_aload_n C dX6_choose_131 rfl 1 rfl rfl ?_
                refine x_get C (ci := 5) (k := 10) 92 k48 rfl in_X6 (by decide) w_330 rfl dX6_choose_132 rfl ?_
                refine x_iload_n C dX6_choose_135 rfl 2 rfl rfl ?_
                refine x_iload C dX6_choose_136 0 rfl rfl ?_
                obtain ⟨_, k68, f69, rfl⟩ := hWl87 101 _ rfl
                obtain ⟨w70, hw71⟩ : ∃ w : va_W, w = List.set wl87 101 (iA E (a 101) 4 (upd f69 (2 : Int32).toNatClampNeg v64)) := ⟨_, rfl⟩
                refine x_iast C 101 k68 (vp_k (j := 2) (by decide) (by decide) (by decide)) hw71.symm dX6_choose_138 rfl ?_
                have hW72 : WX (okX E a) w70 := by rw [hw71]; exact hWl87.set (k := 101) rfl ⟨_, rfl⟩
                have k73 : w70[92]? = some (ob (a 92) 5 [.ref (a 93), .ref (a 94), .int (nI n49), .int (nI n51), .ref (a 95), .ref (a 96), .ref (a 97), .ref (a 98), .ref (a 99), .ref (a 100), .ref (a 101), .ref (a 102), .int v53]) := by rw [hw71]; exact set_ne k48 (by decide)
                have k74 : w70[98]? = some (iA E (a 98) 4 (fun j => nI (g55 j))) := by rw [hw71]; exact set_ne k54 (by decide)
                have k75 : w70[97]? = some (iA E (a 97) 1008 f63) := by rw [hw71]; exact set_ne k62 (by decide)
                have k76 : w70[101]? = some (iA E (a 101) 4 (upd f69 (2 : Int32).toNatClampNeg v64)) := by rw [hw71]; exact set_eq k68
                have kp77 := keeps_set kq87 hw71 (by first | exact rfl | decide | omega | (dsimp only; omega))
                refine x_aload_n C dX6_choose_139 rfl 1 rfl rfl ?_
                refine x_iload_n C dX6_choose_140 rfl 2 rfl rfl ?_
                refine x_iconst C (v := 1) dX6_choose_141 (by decide) rfl ?_
                refine x_iadd C (v := 3) dX6_choose_142 (by decide) rfl ?_
                refine x_iload_n C dX6_choose_143 rfl 3 rfl rfl ?_
                refine x_iload C dX6_choose_144 0 rfl rfl ?_
                refine x_iconst C (v := (-1)) dX6_choose_146 (by decide) rfl ?_
                refine x_ixor C (v := (v64 ^^^ ((-1) : Int32))) dX6_choose_147 rfl rfl ?_
                refine x_any (fun v78 => ?_)
                obtain ⟨z79, hz80, ez81⟩ := and_low (f := f0) (by omega) v78
                refine x_iand C (v := (nI z79)) dX6_choose_148 ez81 rfl ?_
                refine x_iload_n C dX6_choose_149 rfl 4 rfl rfl ?_
                refine x_aload_n C dX6_choose_150 rfl 1 rfl rfl ?_
                refine x_iload_n C dX6_choose_151 rfl 2 rfl rfl ?_
                refine x_iload C dX6_choose_152 0 rfl rfl ?_
                refine x_si C (As := [.int v64]) (rest := [.int 2, .ref (a 92), .int p2, .int (nI z79), .int 3, .ref (a 92)]) (c_bitCount E l a w70 hW72 v64) mf_J6_bitCount_0f7a4 w_926 rfl rfl (Nat.le_of_ble_eq_true rfl) ⟨(Nat.le_of_ble_eq_true rfl), (Nat.le_of_ble_eq_true rfl)⟩ ⟨(Nat.le_of_ble_eq_true rfl), (Nat.le_of_ble_eq_true rfl)⟩ dX6_choose_154 rfl (fun r83 w84 h82 => ?_)
                obtain ⟨hW85, x86⟩ := h82
                refine x_ws hW85 ?_
                refine x_vi C (As := [.int 2, .int r83]) (rest := [.int p2, .int (nI z79), .int 3, .ref (a 92)]) (c_gain E l a w70 hW72 2 r83 (by omega)) mf_X6_gain w_931 92 k73 rfl rfl rfl (Nat.le_of_ble_eq_true rfl) ⟨(Nat.le_of_ble_eq_true rfl), (Nat.le_of_ble_eq_true rfl)⟩ ⟨(Nat.le_of_ble_eq_true rfl), (Nat.le_of_ble_eq_true rfl)⟩ dX6_choose_157 rfl (fun r88 w89 h87 => ?_)
                have hW90 := h87
                refine x_ws hW90 ?_
                refine x_iadd C (v := (p2 + r88)) dX6_choose_160 rfl rfl ?_
                refine x_any (fun v91 => ?_)
                refine x_vv C (As := [.int 3, .int (nI z79), .int v91]) (rest := []) (c_choose3 E l a w70 hW72 z79 v91 (by omega)) mf_X6_choose w_936 92 k73 rfl rfl rfl (Nat.le_of_ble_eq_true rfl) ⟨(Nat.le_of_ble_eq_true rfl), (Nat.le_of_ble_eq_true rfl)⟩ ⟨(Nat.le_of_ble_eq_true rfl), (Nat.le_of_ble_eq_true rfl)⟩ dX6_choose_161 rfl (fun w94 h92 => ?_)
                obtain ⟨hW95, kq96⟩ := h92
                have k97 : w94[98]? = some (iA E (a 98) 4 (fun j => nI (g55 j))) := keeps_at kq96 k74 (by first | decide | omega | (dsimp only; omega))
                have k98 : w94[97]? = some (iA E (a 97) 1008 f63) := keeps_at kq96 k75 (by first | decide | omega | (dsimp only; omega))
                have kp99 := keeps_tr kp77 kq96 (fun q hq => by first | omega | (dsimp only at *; omega))
                refine x_iinc C (v := (nI (j + 1))) (lv' := [(5, .int (nI (j + 1))), (6, .int v64), (0, .ref (a 92)), (1, .int 2), (2, .int (nI f0)), (3, .int p2), (4, .int v46)]) dX6_choose_164 6 rfl (nI_add j 1) (by decide) rfl rfl ?_
                refine x_goto C (tgt := 87) dX6_choose_167 (by decide) ?_
                refine x_lv (lv1 := [(0, .ref (a 92)), (1, .int 2), (2, .int (nI f0)), (3, .int p2), (4, .int v46), (5, .int (nI (j + 1)))]) [2, 3, 4, 5, 6, 0] rfl ?_
                exact ih87 (j + 1) w94 hW95 (by omega) (by omega) kp99
      refine x_lv (lv1 := [(0, .ref (a 92)), (1, .int 2), (2, .int (nI f0)), (3, .int p2), (4, .int v46), (5, .int 0)]) [2, 3, 4, 5, 1, 0] rfl ?_
      exact loop87 _ 0 w29 hW31 (Nat.lt_succ_self _) (by omega) kp34
    · skip
      refine x_aload_n C dX6_choose_75 rfl 1 rfl rfl ?_
      refine x_iload_n C dX6_choose_76 rfl 2 rfl rfl ?_
      refine x_iconst C (v := 1) dX6_choose_77 (by decide) rfl ?_
      refine x_iadd C (v := 3) dX6_choose_78 (by decide) rfl ?_
      refine x_iload_n C dX6_choose_79 rfl 3 rfl rfl ?_
      refine x_iload_n C dX6_choose_80 rfl 4 rfl rfl ?_
      refine x_vv C (As := [.int 3, .int (nI f0), .int p2]) (rest := []) (c_choose3 E l a w29 hW31 f0 p2 (by omega)) mf_X6_choose w_936 92 k32 rfl rfl rfl (Nat.le_of_ble_eq_true rfl) ⟨(Nat.le_of_ble_eq_true rfl), (Nat.le_of_ble_eq_true rfl)⟩ ⟨(Nat.le_of_ble_eq_true rfl), (Nat.le_of_ble_eq_true rfl)⟩ dX6_choose_81 rfl (fun w102 h100 => ?_)
      obtain ⟨hW103, kq104⟩ := h100
      have k105 : w102[100]? = some (iA E (a 100) 55 f44) := keeps_at kq104 k43 (by first | decide | omega | (dsimp only; omega))
      have kp106 := keeps_tr kp34 kq104 (fun q hq => by first | omega | (dsimp only at *; omega))
      refine x_iconst C (v := 0) dX6_choose_84 (by decide) rfl ?_
      refine x_istore C (lv' := [(5, .int 0), (4, .int v46), (0, .ref (a 92)), (1, .int 2), (2, .int (nI f0)), (3, .int p2)]) dX6_choose_85 (by decide) rfl rfl ?_
      have loop87 : ∀ (fu87 : Nat) (j : Nat) (wl87 : va_W), WX (okX E a) wl87 → 252 - j < fu87 → j ≤ 252 → keeps ws wl87 (fun q => q = 92 ∨ q = 101 ∨ q = 102) → X E p l e (xRm 3 0 0) s m ([.ref (a 92), .int 2, .int (nI f0), .int p2] : List Value).toArray below meth c A 7 0 0 (MQ below (va_Qv (fun w => WX (okX E a) w ∧ keeps ws w (fun q => q = 92 ∨ q = 101 ∨ q = 102)) (xB E A) A) ([.ref (a 92), .int 2, .int (nI f0), .int p2] : List Value).toArray s 0 0 A) wl87 87 [(0, .ref (a 92)), (1, .int 2), (2, .int (nI f0)), (3, .int p2), (4, .int v46), (5, .int (nI j))] [] := by
        intro fu87
        induction fu87 with
        | zero => intro j wl87 _ q; omega
        | succ fu87 ih87 =>
          intro j wl87 hWl87 me87 iv87_0 kq87
          refine x_iload C dX6_choose_87 5 rfl rfl ?_
          refine x_aload_n C dX6_choose_89 rfl 0 rfl rfl ?_
          obtain ⟨_, k107, n108, n110, v112, bn109, bn111, rfl⟩ := hWl87 92 _ rfl
          refine x_get C (ci := 5) (k := 7) 92 k107 rfl in_X6 (by decide) w_327 rfl dX6_choose_90 rfl ?_
          refine x_iload_n C dX6_choose_93 rfl 1 rfl rfl ?_
          obtain ⟨_, k113, g114, gb115, rfl⟩ := hWl87 98 _ rfl
          refine x_ialk C (v := nI (g114 2)) 2 (by decide) (by decide) (by decide) 98 k113 rfl dX6_choose_94 rfl ?_
          have bx116 := gb115 2
          refine x_icmp_ge C (tgt := 170) dX6_choose_95 (by decide) rfl (fun c117 => ?_) (fun c117 => ?_)
          · skip
            have nf118 := nI_le' (a := (g114 2)) (b := j) c117 (by omega) (by omega)
            exact x_vret C hr hlk dX6_choose_170 ⟨hWl87, kq87⟩
          · skip
            have nf119 := nI_nle' (a := (g114 2)) (b := j) c117 (by omega) (by omega)
            refine x_iload C dX6_choose_98 4 rfl rfl ?_
            refine x_aload_n C dX6_choose_100 rfl 0 rfl rfl ?_
            refine x_get C (ci := 5) (k := 12) 92 k107 rfl in_X6 (by decide) w_332 rfl dX6_choose_101 rfl ?_
            refine x_icmp_le C (tgt := 170) dX6_choose_104 (by decide) rfl (fun c120 => ?_) (fun c120 => ?_)
            · skip
              exact x_vret C hr hlk dX6_choose_170 ⟨hWl87, kq87⟩
            · skip
              refine x_aload_n C dX6_choose_107 rfl 0 rfl rfl ?_
              refine x_get C (ci := 5) (k := 6) 92 k107 rfl in_X6 (by decide) w_326 rfl dX6_choose_108 rfl ?_
              refine x_iload_n C dX6_choose_111 rfl 1 rfl rfl ?_
              refine x_sipush C (v := 252) dX6_choose_112 (by decide) rfl ?_
              refine x_imul C (v := 504) dX6_choose_115 (by decide) rfl ?_
              refine x_iload C dX6_choose_116 5 rfl rfl ?_
              refine x_iadd C (v := (nI (504 + j))) dX6_choose_118 (nI_add 504 j) rfl ?_
              obtain ⟨_, k121, f122, rfl⟩ := hWl87 97 _ rfl
              refine x_iald C (v := (f122 (nI (504 + j)).toNatClampNeg)) 97 k121 (vp_in_nI (by omega) (by decide)) rfl dX6_choose_119 rfl ?_
              refine x_any (fun v123 => ?_)
              refine x_istore C (lv' := [(6, .int v123), (0, .ref (a 92)), (1, .int 2), (2, .int (nI f0)), (3, .int p2), (4, .int v46), (5, .int (nI j))]) dX6_choose_120 (by decide) rfl rfl ?_
              refine x_iload C dX6_choose_122 0 rfl rfl ?_
              refine x_iload_n C dX6_choose_124 rfl 3 rfl rfl ?_
              refine x_iconst C (v := (-1)) dX6_choose_125 (by decide) rfl ?_
              refine x_ixor C (v := ((nI f0) ^^^ ((-1) : Int32))) dX6_choose_126 rfl rfl ?_
              refine x_any (fun v124 => ?_)
              refine x_iand C (v := (v123 &&& v124)) dX6_choose_127 rfl rfl ?_
              refine x_any (fun v125 => ?_)
              refine x_if_ne C (tgt := 164) dX6_choose_128 (by decide) rfl (fun c126 => ?_) (fun c126 => ?_)
              · skip
                refine x_iinc C (v := (nI (j + 1))) (lv' := [(5, .int (nI (j + 1))), (6, .int v123), (0, .ref (a 92)), (1, .int 2), (2, .int (nI f0)), (3, .int p2), (4, .int v46)]) dX6_choose_164 6 rfl (nI_add j 1) (by decide) rfl rfl ?_
                refine x_goto C (tgt := 87) dX6_choose_167 (by decide) ?_
                refine x_lv (lv1 := [(0, .ref (a 92)), (1, .int 2), (2, .int (nI f0)), (3, .int p2), (4, .int v46), (5, .int (nI (j + 1)))]) [2, 3, 4, 5, 6, 0] rfl ?_
                exact ih87 (j + 1) wl87 hWl87 (by omega) (by omega) kq87
              · skip
                refine x_aload_n C dX6_choose_131 rfl 1 rfl rfl ?_
                refine x_get C (ci := 5) (k := 10) 92 k107 rfl in_X6 (by decide) w_330 rfl dX6_choose_132 rfl ?_
                refine x_iload_n C dX6_choose_135 rfl 2 rfl rfl ?_
                refine x_iload C dX6_choose_136 0 rfl rfl ?_
                obtain ⟨_, k127, f128, rfl⟩ := hWl87 101 _ rfl
                obtain ⟨w129, hw130⟩ : ∃ w : va_W, w = List.set wl87 101 (iA E (a 101) 4 (upd f128 (2 : Int32).toNatClampNeg v123)) := ⟨_, rfl⟩
                refine x_iast C 101 k127 (vp_k (j := 2) (by decide) (by decide) (by decide)) hw130.symm dX6_choose_138 rfl ?_
                have hW131 : WX (okX E a) w129 := by rw [hw130]; exact hWl87.set (k := 101) rfl ⟨_, rfl⟩
                have k132 : w129[92]? = some (ob (a 92) 5 [.ref (a 93), .ref (a 94), .int (nI n108), .int (nI n110), .ref (a 95), .ref (a 96), .ref (a 97), .ref (a 98), .ref (a 99), .ref (a 100), .ref (a 101), .ref (a 102), .int v112]) := by rw [hw130]; exact set_ne k107 (by decide)
                have k133 : w129[98]? = some (iA E (a 98) 4 (fun j => nI (g114 j))) := by rw [hw130]; exact set_ne k113 (by decide)
                have k134 : w129[97]? = some (iA E (a 97) 1008 f122) := by rw [hw130]; exact set_ne k121 (by decide)
                have k135 : w129[101]? = some (iA E (a 101) 4 (upd f128 (2 : Int32).toNatClampNeg v123)) := by rw [hw130]; exact set_eq k127
                have kp136 := keeps_set kq87 hw130 (by first | exact rfl | decide | omega | (dsimp only; omega))
                refine x_aload_n C dX6_choose_139 rfl 1 rfl rfl ?_
                refine x_iload_n C dX6_choose_140 rfl 2 rfl rfl ?_
                refine x_iconst C (v := 1) dX6_choose_141 (by decide) rfl ?_
                refine x_iadd C (v := 3) dX6_choose_142 (by decide) rfl ?_
                refine x_iload_n C dX6_choose_143 rfl 3 rfl rfl ?_
                refine x_iload C dX6_choose_144 0 rfl rfl ?_
                refine x_iconst C (v := (-1)) dX6_choose_146 (by decide) rfl ?_
                refine x_ixor C (v := (v123 ^^^ ((-1) : Int32))) dX6_choose_147 rfl rfl ?_
                refine x_any (fun v137 => ?_)
                obtain ⟨z138, hz139, ez140⟩ := and_low (f := f0) (by omega) v137
                refine x_iand C (v := (nI z138)) dX6_choose_148 ez140 rfl ?_
                refine x_iload_n C dX6_choose_149 rfl 4 rfl rfl ?_
                refine x_aload_n C dX6_choose_150 rfl 1 rfl rfl ?_
                refine x_iload_n C dX6_choose_151 rfl 2 rfl rfl ?_
                refine x_iload C dX6_choose_152 0 rfl rfl ?_
                refine x_si C (As := [.int v123]) (rest := [.int 2, .ref (a 92), .int p2, .int (nI z138), .int 3, .ref (a 92)]) (c_bitCount E l a w129 hW131 v123) mf_J6_bitCount_0f7a4 w_926 rfl rfl (Nat.le_of_ble_eq_true rfl) ⟨(Nat.le_of_ble_eq_true rfl), (Nat.le_of_ble_eq_true rfl)⟩ ⟨(Nat.le_of_ble_eq_true rfl), (Nat.le_of_ble_eq_true rfl)⟩ dX6_choose_154 rfl (fun r142 w143 h141 => ?_)
                obtain ⟨hW144, x145⟩ := h141
                refine x_ws hW144 ?_
                refine x_vi C (As := [.int 2, .int r142]) (rest := [.int p2, .int (nI z138), .int 3, .ref (a 92)]) (c_gain E l a w129 hW131 2 r142 (by omega)) mf_X6_gain w_931 92 k132 rfl rfl rfl (Nat.le_of_ble_eq_true rfl) ⟨(Nat.le_of_ble_eq_true rfl), (Nat.le_of_ble_eq_true rfl)⟩ ⟨(Nat.le_of_ble_eq_true rfl), (Nat.le_of_ble_eq_true rfl)⟩ dX6_choose_157 rfl (fun r147 w148 h146 => ?_)
                have hW149 := h146
                refine x_ws hW149 ?_
                refine x_iadd C (v := (p2 + r147)) dX6_choose_160 rfl rfl ?_
                refine x_any (fun v150 => ?_)
                refine x_vv C (As := [.int 3, .int (nI z138), .int v150]) (rest := []) (c_choose3 E l a w129 hW131 z138 v150 (by omega)) mf_X6_choose w_936 92 k132 rfl rfl rfl (Nat.le_of_ble_eq_true rfl) ⟨(Nat.le_of_ble_eq_true rfl), (Nat.le_of_ble_eq_true rfl)⟩ ⟨(Nat.le_of_ble_eq_true rfl), (Nat.le_of_ble_eq_true rfl)⟩ dX6_choose_161 rfl (fun w153 h151 => ?_)
                obtain ⟨hW154, kq155⟩ := h151
                have k156 : w153[98]? = some (iA E (a 98) 4 (fun j => nI (g114 j))) := keeps_at kq155 k133 (by first | decide | omega | (dsimp only; omega))
                have k157 : w153[97]? = some (iA E (a 97) 1008 f122) := keeps_at kq155 k134 (by first | decide | omega | (dsimp only; omega))
                have kp158 := keeps_tr kp136 kq155 (fun q hq => by first | omega | (dsimp only at *; omega))
                refine x_iinc C (v := (nI (j + 1))) (lv' := [(5, .int (nI (j + 1))), (6, .int v123), (0, .ref (a 92)), (1, .int 2), (2, .int (nI f0)), (3, .int p2), (4, .int v46)]) dX6_choose_164 6 rfl (nI_add j 1) (by decide) rfl rfl ?_
                refine x_goto C (tgt := 87) dX6_choose_167 (by decide) ?_
                refine x_lv (lv1 := [(0, .ref (a 92)), (1, .int 2), (2, .int (nI f0)), (3, .int p2), (4, .int v46), (5, .int (nI (j + 1)))]) [2, 3, 4, 5, 6, 0] rfl ?_
                exact ih87 (j + 1) w153 hW154 (by omega) (by omega) kp158
      refine x_lv (lv1 := [(0, .ref (a 92)), (1, .int 2), (2, .int (nI f0)), (3, .int p2), (4, .int v46), (5, .int 0)]) [2, 3, 4, 5, 1, 0] rfl ?_
      exact loop87 _ 0 w102 hW103 (Nat.lt_succ_self _) (by omega) kp106
set_option maxRecDepth 20000 in
set_option maxHeartbeats 4000000 in
theorem c_choose1 (E : xE) (l : Launch) (a : Nat → Nat) (ws : va_W) (hW : WX (okX E a) ws) (f0 : Nat) (p2 : Int32) (hf0 : f0 < 1024) : xV E l yX6_choose cX6_choose 7 4 0 0 [.ref (a 92), .int 1, .int (nI f0), .int p2] ws (fun w => WX (okX E a) w ∧ keeps ws w (fun q => q = 92 ∨ q = 101 ∨ q = 102)) := by
  refine xV_start (lv := [(0, .ref (a 92)), (1, .int 1), (2, .int (nI f0)), (3, .int p2)]) RX6 (by decide) rfl (Nat.le_of_ble_eq_true rfl) rfl (fun p e s m below meth c A C hr hlk hin => ?_)
  have kp0 : keeps ws ws (fun q => q = 92 ∨ q = 101 ∨ q = 102) := keeps_rf
  refine x_iload_n C dX6_choose_0 rfl 1 rfl rfl ?_
  refine x_aload_n C dX6_choose_1 rfl 0 rfl rfl ?_
  obtain ⟨_, k1, n2, n4, v6, bn3, bn5, rfl⟩ := hW 92 _ rfl
  refine x_get C (ci := 5) (k := 3) 92 k1 rfl in_X6 (by decide) w_323 rfl dX6_choose_2 rfl ?_
  refine x_icmp_ge C (tgt := 13) dX6_choose_5 (by decide) rfl (fun c7 => ?_) (fun c7 => ?_)
  · skip
    have nf8 := nI_le' (a := n4) (b := 1) c7 (by omega) (by omega)
    refine x_iload_n C dX6_choose_13 rfl 3 rfl rfl ?_
    refine x_aload_n C dX6_choose_14 rfl 0 rfl rfl ?_
    refine x_get C (ci := 5) (k := 12) 92 k1 rfl in_X6 (by decide) w_332 rfl dX6_choose_15 rfl ?_
    refine x_icmp_le C (tgt := 40) dX6_choose_18 (by decide) rfl (fun c9 => ?_) (fun c9 => ?_)
    · skip
      exact x_vret C hr hlk dX6_choose_40 ⟨hW, kp0⟩
    · skip
      refine x_aload_n C dX6_choose_21 rfl 0 rfl rfl ?_
      refine x_iload_n C dX6_choose_22 rfl 3 rfl rfl ?_
      obtain ⟨w10, hw11⟩ : ∃ w : va_W, w = List.set ws 92 (ob (a 92) 5 [.ref (a 93), .ref (a 94), .int (nI n2), .int (nI n4), .ref (a 95), .ref (a 96), .ref (a 97), .ref (a 98), .ref (a 99), .ref (a 100), .ref (a 101), .ref (a 102), .int p2]) := ⟨_, rfl⟩
      refine x_put C (ci := 5) (k := 12) (ty := .int) 92 k1 rfl in_X6 tyX6 tyX6_ok nmX6 (by decide) w_332 rfl rfl rfl rfl (Nat.le_of_ble_eq_true rfl) hw11.symm dX6_choose_23 rfl ?_
      have hW12 : WX (okX E a) w10 := by rw [hw11]; exact hW.set (k := 92) rfl ⟨n2, n4, p2, by omega, by omega, rfl⟩
      have k13 : w10[92]? = some (ob (a 92) 5 [.ref (a 93), .ref (a 94), .int (nI n2), .int (nI n4), .ref (a 95), .ref (a 96), .ref (a 97), .ref (a 98), .ref (a 99), .ref (a 100), .ref (a 101), .ref (a 102), .int p2]) := by rw [hw11]; exact set_eq k1
      have kp14 := keeps_set kp0 hw11 (by first | exact rfl | decide | omega | (dsimp only; omega))
      refine x_aload_n C dX6_choose_26 rfl 0 rfl rfl ?_
      refine x_get C (ci := 5) (k := 10) 92 k13 rfl in_X6 (by decide) w_330 rfl dX6_choose_27 rfl ?_
      refine x_iconst C (v := 0) dX6_choose_30 (by decide) rfl ?_
      refine x_aload_n C dX6_choose_31 rfl 0 rfl rfl ?_
      refine x_get C (ci := 5) (k := 11) 92 k13 rfl in_X6 (by decide) w_331 rfl dX6_choose_32 rfl ?_
      refine x_iconst C (v := 0) dX6_choose_35 (by decide) rfl ?_
      refine x_iconst C (v := 4) dX6_choose_36 (by decide) rfl ?_
      obtain ⟨_, k15, f16, rfl⟩ := hW12 101 _ rfl
      obtain ⟨_, k17, f18, rfl⟩ := hW12 102 _ rfl
      obtain ⟨w19, hw20⟩ : ∃ w : va_W, w = List.set w10 102 (iA E (a 102) 4 (va_cpy f16 f18 0 0 4)) := ⟨_, rfl⟩
      refine x_copy C 101 102 k15 k17 w_940 w_798 w_797 w_20 (by decide) (by decide) (by decide) (by decide) (by decide) (Nat.le_of_ble_eq_true rfl) (Nat.le_of_ble_eq_true rfl) hw20.symm dX6_choose_37 rfl ?_
      have hW21 : WX (okX E a) w19 := by rw [hw20]; exact hW12.set (k := 102) rfl ⟨_, rfl⟩
      have k22 : w19[92]? = some (ob (a 92) 5 [.ref (a 93), .ref (a 94), .int (nI n2), .int (nI n4), .ref (a 95), .ref (a 96), .ref (a 97), .ref (a 98), .ref (a 99), .ref (a 100), .ref (a 101), .ref (a 102), .int p2]) := by rw [hw20]; exact set_ne k13 (by decide)
      have k23 : w19[101]? = some (iA E (a 101) 4 f16) := by rw [hw20]; exact set_ne k15 (by decide)
      have k24 : w19[102]? = some (iA E (a 102) 4 (va_cpy f16 f18 0 0 4)) := by rw [hw20]; exact set_eq k17
      have kp25 := keeps_set kp14 hw20 (by first | exact rfl | decide | omega | (dsimp only; omega))
      exact x_vret C hr hlk dX6_choose_40 ⟨hW21, kp25⟩
  · skip
    have nf26 := nI_nle' (a := n4) (b := 1) c7 (by omega) (by omega)
    refine x_iload_n C dX6_choose_8 rfl 1 rfl rfl ?_
    refine x_iconst C (v := 4) dX6_choose_9 (by decide) rfl ?_
    refine x_icmp_lt C (tgt := 41) dX6_choose_10 (by decide) rfl (fun _ => ?_) (fun h => absurd h (by decide))
    refine x_aload_n C dX6_choose_41 rfl 0 rfl rfl ?_
    refine x_get C (ci := 5) (k := 10) 92 k1 rfl in_X6 (by decide) w_330 rfl dX6_choose_42 rfl ?_
    refine x_iload_n C dX6_choose_45 rfl 1 rfl rfl ?_
    refine x_iconst C (v := 0) dX6_choose_46 (by decide) rfl ?_
    obtain ⟨_, k27, f28, rfl⟩ := hW 101 _ rfl
    obtain ⟨w29, hw30⟩ : ∃ w : va_W, w = List.set ws 101 (iA E (a 101) 4 (upd f28 (1 : Int32).toNatClampNeg 0)) := ⟨_, rfl⟩
    refine x_iast C 101 k27 (vp_k (j := 1) (by decide) (by decide) (by decide)) hw30.symm dX6_choose_47 rfl ?_
    have hW31 : WX (okX E a) w29 := by rw [hw30]; exact hW.set (k := 101) rfl ⟨_, rfl⟩
    have k32 : w29[92]? = some (ob (a 92) 5 [.ref (a 93), .ref (a 94), .int (nI n2), .int (nI n4), .ref (a 95), .ref (a 96), .ref (a 97), .ref (a 98), .ref (a 99), .ref (a 100), .ref (a 101), .ref (a 102), .int v6]) := by rw [hw30]; exact set_ne k1 (by decide)
    have k33 : w29[101]? = some (iA E (a 101) 4 (upd f28 (1 : Int32).toNatClampNeg 0)) := by rw [hw30]; exact set_eq k27
    have kp34 := keeps_set kp0 hw30 (by first | exact rfl | decide | omega | (dsimp only; omega))
    refine x_iload_n C dX6_choose_48 rfl 3 rfl rfl ?_
    refine x_aload_n C dX6_choose_49 rfl 0 rfl rfl ?_
    refine x_get C (ci := 5) (k := 9) 92 k32 rfl in_X6 (by decide) w_329 rfl dX6_choose_50 rfl ?_
    refine x_iload_n C dX6_choose_53 rfl 1 rfl rfl ?_
    refine x_bipush C (v := 11) dX6_choose_54 (by decide) rfl ?_
    refine x_imul C (v := 11) dX6_choose_56 (by decide) rfl ?_
    refine x_iload_n C dX6_choose_57 rfl 2 rfl rfl ?_
    refine x_si C (As := [.int (nI f0)]) (rest := [.int 11, .ref (a 100), .int p2]) (c_bitCount E l a w29 hW31 ((nI f0))) mf_J6_bitCount_0f7a4 w_926 rfl rfl (Nat.le_of_ble_eq_true rfl) ⟨(Nat.le_of_ble_eq_true rfl), (Nat.le_of_ble_eq_true rfl)⟩ ⟨(Nat.le_of_ble_eq_true rfl), (Nat.le_of_ble_eq_true rfl)⟩ dX6_choose_58 rfl (fun r36 w37 h35 => ?_)
    obtain ⟨hW38, x39⟩ := h35
    refine x_ws hW38 ?_
    obtain ⟨kk40, hk41, ek42⟩ := bc_cnt (i := f0) (by omega)
    refine x_top (x39.trans ek42) ?_
    refine x_iadd C (v := (nI (11 + kk40))) dX6_choose_61 (nI_add 11 kk40) rfl ?_
    obtain ⟨_, k43, f44, rfl⟩ := hW31 100 _ rfl
    refine x_iald C (v := (f44 (nI (11 + kk40)).toNatClampNeg)) 100 k43 (vp_in_nI (by omega) (by decide)) rfl dX6_choose_62 rfl ?_
    refine x_any (fun v45 => ?_)
    refine x_iadd C (v := (p2 + v45)) dX6_choose_63 rfl rfl ?_
    refine x_any (fun v46 => ?_)
    refine x_istore C (lv' := [(4, .int v46), (0, .ref (a 92)), (1, .int 1), (2, .int (nI f0)), (3, .int p2)]) dX6_choose_64 (by decide) rfl rfl ?_
    refine x_iload C dX6_choose_66 0 rfl rfl ?_
    refine x_aload_n C dX6_choose_68 rfl 1 rfl rfl ?_
    refine x_get C (ci := 5) (k := 12) 92 k32 rfl in_X6 (by decide) w_332 rfl dX6_choose_69 rfl ?_
    refine x_icmp_le C (tgt := 84) dX6_choose_72 (by decide) rfl (fun c47 => ?_) (fun c47 => ?_)
    · skip
      refine x_iconst C (v := 0) dX6_choose_84 (by decide) rfl ?_
      refine x_istore C (lv' := [(5, .int 0), (4, .int v46), (0, .ref (a 92)), (1, .int 1), (2, .int (nI f0)), (3, .int p2)]) dX6_choose_85 (by decide) rfl rfl ?_
      have loop87 : ∀ (fu87 : Nat) (j : Nat) (wl87 : va_W), WX (okX E a) wl87 → 252 - j < fu87 → j ≤ 252 → keeps ws wl87 (fun q => q = 92 ∨ q = 101 ∨ q = 102) → X E p l e (xRm 4 0 0) s m ([.ref (a 92), .int 1, .int (nI f0), .int p2] : List Value).toArray below meth c A 7 0 0 (MQ below (va_Qv (fun w => WX (okX E a) w ∧ keeps ws w (fun q => q = 92 ∨ q = 101 ∨ q = 102)) (xB E A) A) ([.ref (a 92), .int 1, .int (nI f0), .int p2] : List Value).toArray s 0 0 A) wl87 87 [(0, .ref (a 92)), (1, .int 1), (2, .int (nI f0)), (3, .int p2), (4, .int v46), (5, .int (nI j))] [] := by
        intro fu87
        induction fu87 with
        | zero => intro j wl87 _ q; omega
        | succ fu87 ih87 =>
          intro j wl87 hWl87 me87 iv87_0 kq87
          refine x_iload C dX6_choose_87 5 rfl rfl ?_
          refine x_aload_n C dX6_choose_89 rfl 0 rfl rfl ?_
          obtain ⟨_, k48, n49, n51, v53, bn50, bn52, rfl⟩ := hWl87 92 _ rfl
          refine x_get C (ci := 5) (k := 7) 92 k48 rfl in_X6 (by decide) w_327 rfl dX6_choose_90 rfl ?_
          refine x_iload_n C dX6_choose_93 rfl 1 rfl rfl ?_
          obtain ⟨_, k54, g55, gb56, rfl⟩ := hWl87 98 _ rfl
          refine x_ialk C (v := nI (g55 1)) 1 (by decide) (by decide) (by decide) 98 k54 rfl dX6_choose_94 rfl ?_
          have bx57 := gb56 1
          refine x_icmp_ge C (tgt := 170) dX6_choose_95 (by decide) rfl (fun c58 => ?_) (fun c58 => ?_)
          · skip
            have nf59 := nI_le' (a := (g55 1)) (b := j) c58 (by omega) (by omega)
            exact x_vret C hr hlk dX6_choose_170 ⟨hWl87, kq87⟩
          · skip
            have nf60 := nI_nle' (a := (g55 1)) (b := j) c58 (by omega) (by omega)
            refine x_iload C dX6_choose_98 4 rfl rfl ?_
            refine x_aload_n C dX6_choose_100 rfl 0 rfl rfl ?_
            refine x_get C (ci := 5) (k := 12) 92 k48 rfl in_X6 (by decide) w_332 rfl dX6_choose_101 rfl ?_
            refine x_icmp_le C (tgt := 170) dX6_choose_104 (by decide) rfl (fun c61 => ?_) (fun c61 => ?_)
            · skip
              exact x_vret C hr hlk dX6_choose_170 ⟨hWl87, kq87⟩
            · skip
              refine x_aload_n C dX6_choose_107 rfl 0 rfl rfl ?_
              refine x_get C (ci := 5) (k := 6) 92 k48 rfl in_X6 (by decide) w_326 rfl dX6_choose_108 rfl ?_
              refine x_iload_n C dX6_choose_111 rfl 1 rfl rfl ?_
              refine x_sipush C (v := 252) dX6_choose_112 (by decide) rfl ?_
              refine x_imul C (v := 252) dX6_choose_115 (by decide) rfl ?_
              refine x_iload C dX6_choose_116 5 rfl rfl ?_
              refine x_iadd C (v := (nI (252 + j))) dX6_choose_118 (nI_add 252 j) rfl ?_
              obtain ⟨_, k62, f63, rfl⟩ := hWl87 97 _ rfl
              refine x_iald C (v := (f63 (nI (252 + j)).toNatClampNeg)) 97 k62 (vp_in_nI (by omega) (by decide)) rfl dX6_choose_119 rfl ?_
              refine x_any (fun v64 => ?_)
              refine x_istore C (lv' := [(6, .int v64), (0, .ref (a 92)), (1, .int 1), (2, .int (nI f0)), (3, .int p2), (4, .int v46), (5, .int (nI j))]) dX6_choose_120 (by decide) rfl rfl ?_
              refine x_iload C dX6_choose_122 0 rfl rfl ?_
              refine x_iload_n C dX6_choose_124 rfl 3 rfl rfl ?_
              refine x_iconst C (v := (-1)) dX6_choose_125 (by decide) rfl ?_
              refine x_ixor C (v := ((nI f0) ^^^ ((-1) : Int32))) dX6_choose_126 rfl rfl ?_
              refine x_any (fun v65 => ?_)
              refine x_iand C (v := (v64 &&& v65)) dX6_choose_127 rfl rfl ?_
              refine x_any (fun v66 => ?_)
              refine x_if_ne C (tgt := 164) dX6_choose_128 (by decide) rfl (fun c67 => ?_) (fun c67 => ?_)
              · skip
                refine x_iinc C (v := (nI (j + 1))) (lv' := [(5, .int (nI (j + 1))), (6, .int v64), (0, .ref (a 92)), (1, .int 1), (2, .int (nI f0)), (3, .int p2), (4, .int v46)]) dX6_choose_164 6 rfl (nI_add j 1) (by decide) rfl rfl ?_
                refine x_goto C (tgt := 87) dX6_choose_167 (by decide) ?_
                refine x_lv (lv1 := [(0, .ref (a 92)), (1, .int 1), (2, .int (nI f0)), (3, .int p2), (4, .int v46), (5, .int (nI (j + 1)))]) [2, 3, 4, 5, 6, 0] rfl ?_
                exact ih87 (j + 1) wl87 hWl87 (by omega) (by omega) kq87
              · skip
                refine x_aload_n C dX6_choose_131 rfl 1 rfl rfl ?_
                refine x_get C (ci := 5) (k := 10) 92 k48 rfl in_X6 (by decide) w_330 rfl dX6_choose_132 rfl ?_
                refine x_iload_n C dX6_choose_135 rfl 2 rfl rfl ?_
                refine x_iload C dX6_choose_136 0 rfl rfl ?_
                obtain ⟨_, k68, f69, rfl⟩ := hWl87 101 _ rfl
                obtain ⟨w70, hw71⟩ : ∃ w : va_W, w = List.set wl87 101 (iA E (a 101) 4 (upd f69 (1 : Int32).toNatClampNeg v64)) := ⟨_, rfl⟩
                refine x_iast C 101 k68 (vp_k (j := 1) (by decide) (by decide) (by decide)) hw71.symm dX6_choose_138 rfl ?_
                have hW72 : WX (okX E a) w70 := by rw [hw71]; exact hWl87.set (k := 101) rfl ⟨_, rfl⟩
                have k73 : w70[92]? = some (ob (a 92) 5 [.ref (a 93), .ref (a 94), .int (nI n49), .int (nI n51), .ref (a 95), .ref (a 96), .ref (a 97), .ref (a 98), .ref (a 99), .ref (a 100), .ref (a 101), .ref (a 102), .int v53]) := by rw [hw71]; exact set_ne k48 (by decide)
                have k74 : w70[98]? = some (iA E (a 98) 4 (fun j => nI (g55 j))) := by rw [hw71]; exact set_ne k54 (by decide)
                have k75 : w70[97]? = some (iA E (a 97) 1008 f63) := by rw [hw71]; exact set_ne k62 (by decide)
                have k76 : w70[101]? = some (iA E (a 101) 4 (upd f69 (1 : Int32).toNatClampNeg v64)) := by rw [hw71]; exact set_eq k68
                have kp77 := keeps_set kq87 hw71 (by first | exact rfl | decide | omega | (dsimp only; omega))
                refine x_aload_n C dX6_choose_139 rfl 1 rfl rfl ?_
                refine x_iload_n C dX6_choose_140 rfl 2 rfl rfl ?_
                refine x_iconst C (v := 1) dX6_choose_141 (by decide) rfl ?_
                refine x_iadd C (v := 2) dX6_choose_142 (by decide) rfl ?_
                refine x_iload_n C dX6_choose_143 rfl 3 rfl rfl ?_
                refine x_iload C dX6_choose_144 0 rfl rfl ?_
                refine x_iconst C (v := (-1)) dX6_choose_146 (by decide) rfl ?_
                refine x_ixor C (v := (v64 ^^^ ((-1) : Int32))) dX6_choose_147 rfl rfl ?_
                refine x_any (fun v78 => ?_)
                obtain ⟨z79, hz80, ez81⟩ := and_low (f := f0) (by omega) v78
                refine x_iand C (v := (nI z79)) dX6_choose_148 ez81 rfl ?_
                refine x_iload_n C dX6_choose_149 rfl 4 rfl rfl ?_
                refine x_aload_n C dX6_choose_150 rfl 1 rfl rfl ?_
                refine x_iload_n C dX6_choose_151 rfl 2 rfl rfl ?_
                refine x_iload C dX6_choose_152 0 rfl rfl ?_
                refine x_si C (As := [.int v64]) (rest := [.int 1, .ref (a 92), .int p2, .int (nI z79), .int 2, .ref (a 92)]) (c_bitCount E l a w70 hW72 v64) mf_J6_bitCount_0f7a4 w_926 rfl rfl (Nat.le_of_ble_eq_true rfl) ⟨(Nat.le_of_ble_eq_true rfl), (Nat.le_of_ble_eq_true rfl)⟩ ⟨(Nat.le_of_ble_eq_true rfl), (Nat.le_of_ble_eq_true rfl)⟩ dX6_choose_154 rfl (fun r83 w84 h82 => ?_)
                obtain ⟨hW85, x86⟩ := h82
                refine x_ws hW85 ?_
                refine x_vi C (As := [.int 1, .int r83]) (rest := [.int p2, .int (nI z79), .int 2, .ref (a 92)]) (c_gain E l a w70 hW72 1 r83 (by omega)) mf_X6_gain w_931 92 k73 rfl rfl rfl (Nat.le_of_ble_eq_true rfl) ⟨(Nat.le_of_ble_eq_true rfl), (Nat.le_of_ble_eq_true rfl)⟩ ⟨(Nat.le_of_ble_eq_true rfl), (Nat.le_of_ble_eq_true rfl)⟩ dX6_choose_157 rfl (fun r88 w89 h87 => ?_)
                have hW90 := h87
                refine x_ws hW90 ?_
                refine x_iadd C (v := (p2 + r88)) dX6_choose_160 rfl rfl ?_
                refine x_any (fun v91 => ?_)
                refine x_vv C (As := [.int 2, .int (nI z79), .int v91]) (rest := []) (c_choose2 E l a w70 hW72 z79 v91 (by omega)) mf_X6_choose w_936 92 k73 rfl rfl rfl (Nat.le_of_ble_eq_true rfl) ⟨(Nat.le_of_ble_eq_true rfl), (Nat.le_of_ble_eq_true rfl)⟩ ⟨(Nat.le_of_ble_eq_true rfl), (Nat.le_of_ble_eq_true rfl)⟩ dX6_choose_161 rfl (fun w94 h92 => ?_)
                obtain ⟨hW95, kq96⟩ := h92
                have k97 : w94[98]? = some (iA E (a 98) 4 (fun j => nI (g55 j))) := keeps_at kq96 k74 (by first | decide | omega | (dsimp only; omega))
                have k98 : w94[97]? = some (iA E (a 97) 1008 f63) := keeps_at kq96 k75 (by first | decide | omega | (dsimp only; omega))
                have kp99 := keeps_tr kp77 kq96 (fun q hq => by first | omega | (dsimp only at *; omega))
                refine x_iinc C (v := (nI (j + 1))) (lv' := [(5, .int (nI (j + 1))), (6, .int v64), (0, .ref (a 92)), (1, .int 1), (2, .int (nI f0)), (3, .int p2), (4, .int v46)]) dX6_choose_164 6 rfl (nI_add j 1) (by decide) rfl rfl ?_
                refine x_goto C (tgt := 87) dX6_choose_167 (by decide) ?_
                refine x_lv (lv1 := [(0, .ref (a 92)), (1, .int 1), (2, .int (nI f0)), (3, .int p2), (4, .int v46), (5, .int (nI (j + 1)))]) [2, 3, 4, 5, 6, 0] rfl ?_
                exact ih87 (j + 1) w94 hW95 (by omega) (by omega) kp99
      refine x_lv (lv1 := [(0, .ref (a 92)), (1, .int 1), (2, .int (nI f0)), (3, .int p2), (4, .int v46), (5, .int 0)]) [2, 3, 4, 5, 1, 0] rfl ?_
      exact loop87 _ 0 w29 hW31 (Nat.lt_succ_self _) (by omega) kp34
    · skip
      refine x_aload_n C dX6_choose_75 rfl 1 rfl rfl ?_
      refine x_iload_n C dX6_choose_76 rfl 2 rfl rfl ?_
      refine x_iconst C (v := 1) dX6_choose_77 (by decide) rfl ?_
      refine x_iadd C (v := 2) dX6_choose_78 (by decide) rfl ?_
      refine x_iload_n C dX6_choose_79 rfl 3 rfl rfl ?_
      refine x_iload_n C dX6_choose_80 rfl 4 rfl rfl ?_
      refine x_vv C (As := [.int 2, .int (nI f0), .int p2]) (rest := []) (c_choose2 E l a w29 hW31 f0 p2 (by omega)) mf_X6_choose w_936 92 k32 rfl rfl rfl (Nat.le_of_ble_eq_true rfl) ⟨(Nat.le_of_ble_eq_true rfl), (Nat.le_of_ble_eq_true rfl)⟩ ⟨(Nat.le_of_ble_eq_true rfl), (Nat.le_of_ble_eq_true rfl)⟩ dX6_choose_81 rfl (fun w102 h100 => ?_)
      obtain ⟨hW103, kq104⟩ := h100
      have k105 : w102[100]? = some (iA E (a 100) 55 f44) := keeps_at kq104 k43 (by first | decide | omega | (dsimp only; omega))
      have kp106 := keeps_tr kp34 kq104 (fun q hq => by first | omega | (dsimp only at *; omega))
      refine x_iconst C (v := 0) dX6_choose_84 (by decide) rfl ?_
      refine x_istore C (lv' := [(5, .int 0), (4, .int v46), (0, .ref (a 92)), (1, .int 1), (2, .int (nI f0)), (3, .int p2)]) dX6_choose_85 (by decide) rfl rfl ?_
      have loop87 : ∀ (fu87 : Nat) (j : Nat) (wl87 : va_W), WX (okX E a) wl87 → 252 - j < fu87 → j ≤ 252 → keeps ws wl87 (fun q => q = 92 ∨ q = 101 ∨ q = 102) → X E p l e (xRm 4 0 0) s m ([.ref (a 92), .int 1, .int (nI f0), .int p2] : List Value).toArray below meth c A 7 0 0 (MQ below (va_Qv (fun w => WX (okX E a) w ∧ keeps ws w (fun q => q = 92 ∨ q = 101 ∨ q = 102)) (xB E A) A) ([.ref (a 92), .int 1, .int (nI f0), .int p2] : List Value).toArray s 0 0 A) wl87 87 [(0, .ref (a 92)), (1, .int 1), (2, .int (nI f0)), (3, .int p2), (4, .int v46), (5, .int (nI j))] [] := by
        intro fu87
        induction fu87 with
        | zero => intro j wl87 _ q; omega
        | succ fu87 ih87 =>
          intro j wl87 hWl87 me87 iv87_0 kq87
          refine x_iload C dX6_choose_87 5 rfl rfl ?_
          refine x_aload_n C dX6_choose_89 rfl 0 rfl rfl ?_
          obtain ⟨_, k107, n108, n110, v112, bn109, bn111, rfl⟩ := hWl87 92 _ rfl
          refine x_get C (ci := 5) (k := 7) 92 k107 rfl in_X6 (by decide) w_327 rfl dX6_choose_90 rfl ?_
          refine x_iload_n C dX6_choose_93 rfl 1 rfl rfl ?_
          obtain ⟨_, k113, g114, gb115, rfl⟩ := hWl87 98 _ rfl
          refine x_ialk C (v := nI (g114 1)) 1 (by decide) (by decide) (by decide) 98 k113 rfl dX6_choose_94 rfl ?_
          have bx116 := gb115 1
          refine x_icmp_ge C (tgt := 170) dX6_choose_95 (by decide) rfl (fun c117 => ?_) (fun c117 => ?_)
          · skip
            have nf118 := nI_le' (a := (g114 1)) (b := j) c117 (by omega) (by omega)
            exact x_vret C hr hlk dX6_choose_170 ⟨hWl87, kq87⟩
          · skip
            have nf119 := nI_nle' (a := (g114 1)) (b := j) c117 (by omega) (by omega)
            refine x_iload C dX6_choose_98 4 rfl rfl ?_
            refine x_aload_n C dX6_choose_100 rfl 0 rfl rfl ?_
            refine x_get C (ci := 5) (k := 12) 92 k107 rfl in_X6 (by decide) w_332 rfl dX6_choose_101 rfl ?_
            refine x_icmp_le C (tgt := 170) dX6_choose_104 (by decide) rfl (fun c120 => ?_) (fun c120 => ?_)
            · skip
              exact x_vret C hr hlk dX6_choose_170 ⟨hWl87, kq87⟩
            · skip
              refine x_aload_n C dX6_choose_107 rfl 0 rfl rfl ?_
              refine x_get C (ci := 5) (k := 6) 92 k107 rfl in_X6 (by decide) w_326 rfl dX6_choose_108 rfl ?_
              refine x_iload_n C dX6_choose_111 rfl 1 rfl rfl ?_
              refine x_sipush C (v := 252) dX6_choose_112 (by decide) rfl ?_
              refine x_imul C (v := 252) dX6_choose_115 (by decide) rfl ?_
              refine x_iload C dX6_choose_116 5 rfl rfl ?_
              refine x_iadd C (v := (nI (252 + j))) dX6_choose_118 (nI_add 252 j) rfl ?_
              obtain ⟨_, k121, f122, rfl⟩ := hWl87 97 _ rfl
              refine x_iald C (v := (f122 (nI (252 + j)).toNatClampNeg)) 97 k121 (vp_in_nI (by omega) (by decide)) rfl dX6_choose_119 rfl ?_
              refine x_any (fun v123 => ?_)
              refine x_istore C (lv' := [(6, .int v123), (0, .ref (a 92)), (1, .int 1), (2, .int (nI f0)), (3, .int p2), (4, .int v46), (5, .int (nI j))]) dX6_choose_120 (by decide) rfl rfl ?_
              refine x_iload C dX6_choose_122 0 rfl rfl ?_
              refine x_iload_n C dX6_choose_124 rfl 3 rfl rfl ?_
              refine x_iconst C (v := (-1)) dX6_choose_125 (by decide) rfl ?_
              refine x_ixor C (v := ((nI f0) ^^^ ((-1) : Int32))) dX6_choose_126 rfl rfl ?_
              refine x_any (fun v124 => ?_)
              refine x_iand C (v := (v123 &&& v124)) dX6_choose_127 rfl rfl ?_
              refine x_any (fun v125 => ?_)
              refine x_if_ne C (tgt := 164) dX6_choose_128 (by decide) rfl (fun c126 => ?_) (fun c126 => ?_)
              · skip
                refine x_iinc C (v := (nI (j + 1))) (lv' := [(5, .int (nI (j + 1))), (6, .int v123), (0, .ref (a 92)), (1, .int 1), (2, .int (nI f0)), (3, .int p2), (4, .int v46)]) dX6_choose_164 6 rfl (nI_add j 1) (by decide) rfl rfl ?_
                refine x_goto C (tgt := 87) dX6_choose_167 (by decide) ?_
                refine x_lv (lv1 := [(0, .ref (a 92)), (1, .int 1), (2, .int (nI f0)), (3, .int p2), (4, .int v46), (5, .int (nI (j + 1)))]) [2, 3, 4, 5, 6, 0] rfl ?_
                exact ih87 (j + 1) wl87 hWl87 (by omega) (by omega) kq87
              · skip
                refine x_aload_n C dX6_choose_131 rfl 1 rfl rfl ?_
                refine x_get C (ci := 5) (k := 10) 92 k107 rfl in_X6 (by decide) w_330 rfl dX6_choose_132 rfl ?_
                refine x_iload_n C dX6_choose_135 rfl 2 rfl rfl ?_
                refine x_iload C dX6_choose_136 0 rfl rfl ?_
                obtain ⟨_, k127, f128, rfl⟩ := hWl87 101 _ rfl
                obtain ⟨w129, hw130⟩ : ∃ w : va_W, w = List.set wl87 101 (iA E (a 101) 4 (upd f128 (1 : Int32).toNatClampNeg v123)) := ⟨_, rfl⟩
                refine x_iast C 101 k127 (vp_k (j := 1) (by decide) (by decide) (by decide)) hw130.symm dX6_choose_138 rfl ?_
                have hW131 : WX (okX E a) w129 := by rw [hw130]; exact hWl87.set (k := 101) rfl ⟨_, rfl⟩
                have k132 : w129[92]? = some (ob (a 92) 5 [.ref (a 93), .ref (a 94), .int (nI n108), .int (nI n110), .ref (a 95), .ref (a 96), .ref (a 97), .ref (a 98), .ref (a 99), .ref (a 100), .ref (a 101), .ref (a 102), .int v112]) := by rw [hw130]; exact set_ne k107 (by decide)
                have k133 : w129[98]? = some (iA E (a 98) 4 (fun j => nI (g114 j))) := by rw [hw130]; exact set_ne k113 (by decide)
                have k134 : w129[97]? = some (iA E (a 97) 1008 f122) := by rw [hw130]; exact set_ne k121 (by decide)
                have k135 : w129[101]? = some (iA E (a 101) 4 (upd f128 (1 : Int32).toNatClampNeg v123)) := by rw [hw130]; exact set_eq k127
                have kp136 := keeps_set kq87 hw130 (by first | exact rfl | decide | omega | (dsimp only; omega))
                refine x_aload_n C dX6_choose_139 rfl 1 rfl rfl ?_
                refine x_iload_n C dX6_choose_140 rfl 2 rfl rfl ?_
                refine x_iconst C (v := 1) dX6_choose_141 (by decide) rfl ?_
                refine x_iadd C (v := 2) dX6_choose_142 (by decide) rfl ?_
                refine x_iload_n C dX6_choose_143 rfl 3 rfl rfl ?_
                refine x_iload C dX6_choose_144 0 rfl rfl ?_
                refine x_iconst C (v := (-1)) dX6_choose_146 (by decide) rfl ?_
                refine x_ixor C (v := (v123 ^^^ ((-1) : Int32))) dX6_choose_147 rfl rfl ?_
                refine x_any (fun v137 => ?_)
                obtain ⟨z138, hz139, ez140⟩ := and_low (f := f0) (by omega) v137
                refine x_iand C (v := (nI z138)) dX6_choose_148 ez140 rfl ?_
                refine x_iload_n C dX6_choose_149 rfl 4 rfl rfl ?_
                refine x_aload_n C dX6_choose_150 rfl 1 rfl rfl ?_
                refine x_iload_n C dX6_choose_151 rfl 2 rfl rfl ?_
                refine x_iload C dX6_choose_152 0 rfl rfl ?_
                refine x_si C (As := [.int v123]) (rest := [.int 1, .ref (a 92), .int p2, .int (nI z138), .int 2, .ref (a 92)]) (c_bitCount E l a w129 hW131 v123) mf_J6_bitCount_0f7a4 w_926 rfl rfl (Nat.le_of_ble_eq_true rfl) ⟨(Nat.le_of_ble_eq_true rfl), (Nat.le_of_ble_eq_true rfl)⟩ ⟨(Nat.le_of_ble_eq_true rfl), (Nat.le_of_ble_eq_true rfl)⟩ dX6_choose_154 rfl (fun r142 w143 h141 => ?_)
                obtain ⟨hW144, x145⟩ := h141
                refine x_ws hW144 ?_
                refine x_vi C (As := [.int 1, .int r142]) (rest := [.int p2, .int (nI z138), .int 2, .ref (a 92)]) (c_gain E l a w129 hW131 1 r142 (by omega)) mf_X6_gain w_931 92 k132 rfl rfl rfl (Nat.le_of_ble_eq_true rfl) ⟨(Nat.le_of_ble_eq_true rfl), (Nat.le_of_ble_eq_true rfl)⟩ ⟨(Nat.le_of_ble_eq_true rfl), (Nat.le_of_ble_eq_true rfl)⟩ dX6_choose_157 rfl (fun r147 w148 h146 => ?_)
                have hW149 := h146
                refine x_ws hW149 ?_
                refine x_iadd C (v := (p2 + r147)) dX6_choose_160 rfl rfl ?_
                refine x_any (fun v150 => ?_)
                refine x_vv C (As := [.int 2, .int (nI z138), .int v150]) (rest := []) (c_choose2 E l a w129 hW131 z138 v150 (by omega)) mf_X6_choose w_936 92 k132 rfl rfl rfl (Nat.le_of_ble_eq_true rfl) ⟨(Nat.le_of_ble_eq_true rfl), (Nat.le_of_ble_eq_true rfl)⟩ ⟨(Nat.le_of_ble_eq_true rfl), (Nat.le_of_ble_eq_true rfl)⟩ dX6_choose_161 rfl (fun w153 h151 => ?_)
                obtain ⟨hW154, kq155⟩ := h151
                have k156 : w153[98]? = some (iA E (a 98) 4 (fun j => nI (g114 j))) := keeps_at kq155 k133 (by first | decide | omega | (dsimp only; omega))
                have k157 : w153[97]? = some (iA E (a 97) 1008 f122) := keeps_at kq155 k134 (by first | decide | omega | (dsimp only; omega))
                have kp158 := keeps_tr kp136 kq155 (fun q hq => by first | omega | (dsimp only at *; omega))
                refine x_iinc C (v := (nI (j + 1))) (lv' := [(5, .int (nI (j + 1))), (6, .int v123), (0, .ref (a 92)), (1, .int 1), (2, .int (nI f0)), (3, .int p2), (4, .int v46)]) dX6_choose_164 6 rfl (nI_add j 1) (by decide) rfl rfl ?_
                refine x_goto C (tgt := 87) dX6_choose_167 (by decide) ?_
                refine x_lv (lv1 := [(0, .ref (a 92)), (1, .int 1), (2, .int (nI f0)), (3, .int p2), (4, .int v46), (5, .int (nI (j + 1)))]) [2, 3, 4, 5, 6, 0] rfl ?_
                exact ih87 (j + 1) w153 hW154 (by omega) (by omega) kp158
      refine x_lv (lv1 := [(0, .ref (a 92)), (1, .int 1), (2, .int (nI f0)), (3, .int p2), (4, .int v46), (5, .int 0)]) [2, 3, 4, 5, 1, 0] rfl ?_
      exact loop87 _ 0 w102 hW103 (Nat.lt_succ_self _) (by omega) kp106
set_option maxRecDepth 20000 in
set_option maxHeartbeats 4000000 in
theorem c_choose0 (E : xE) (l : Launch) (a : Nat → Nat) (ws : va_W) (hW : WX (okX E a) ws) (f0 : Nat) (p2 : Int32) (hf0 : f0 < 1024) : xV E l yX6_choose cX6_choose 7 5 0 0 [.ref (a 92), .int 0, .int (nI f0), .int p2] ws (fun w => WX (okX E a) w ∧ keeps ws w (fun q => q = 92 ∨ q = 101 ∨ q = 102)) := by
  refine xV_start (lv := [(0, .ref (a 92)), (1, .int 0), (2, .int (nI f0)), (3, .int p2)]) RX6 (by decide) rfl (Nat.le_of_ble_eq_true rfl) rfl (fun p e s m below meth c A C hr hlk hin => ?_)
  have kp0 : keeps ws ws (fun q => q = 92 ∨ q = 101 ∨ q = 102) := keeps_rf
  refine x_iload_n C dX6_choose_0 rfl 1 rfl rfl ?_
  refine x_aload_n C dX6_choose_1 rfl 0 rfl rfl ?_
  obtain ⟨_, k1, n2, n4, v6, bn3, bn5, rfl⟩ := hW 92 _ rfl
  refine x_get C (ci := 5) (k := 3) 92 k1 rfl in_X6 (by decide) w_323 rfl dX6_choose_2 rfl ?_
  refine x_icmp_ge C (tgt := 13) dX6_choose_5 (by decide) rfl (fun c7 => ?_) (fun c7 => ?_)
  · skip
    have nf8 := nI_le' (a := n4) (b := 0) c7 (by omega) (by omega)
    refine x_iload_n C dX6_choose_13 rfl 3 rfl rfl ?_
    refine x_aload_n C dX6_choose_14 rfl 0 rfl rfl ?_
    refine x_get C (ci := 5) (k := 12) 92 k1 rfl in_X6 (by decide) w_332 rfl dX6_choose_15 rfl ?_
    refine x_icmp_le C (tgt := 40) dX6_choose_18 (by decide) rfl (fun c9 => ?_) (fun c9 => ?_)
    · skip
      exact x_vret C hr hlk dX6_choose_40 ⟨hW, kp0⟩
    · skip
      refine x_aload_n C dX6_choose_21 rfl 0 rfl rfl ?_
      refine x_iload_n C dX6_choose_22 rfl 3 rfl rfl ?_
      obtain ⟨w10, hw11⟩ : ∃ w : va_W, w = List.set ws 92 (ob (a 92) 5 [.ref (a 93), .ref (a 94), .int (nI n2), .int (nI n4), .ref (a 95), .ref (a 96), .ref (a 97), .ref (a 98), .ref (a 99), .ref (a 100), .ref (a 101), .ref (a 102), .int p2]) := ⟨_, rfl⟩
      refine x_put C (ci := 5) (k := 12) (ty := .int) 92 k1 rfl in_X6 tyX6 tyX6_ok nmX6 (by decide) w_332 rfl rfl rfl rfl (Nat.le_of_ble_eq_true rfl) hw11.symm dX6_choose_23 rfl ?_
      have hW12 : WX (okX E a) w10 := by rw [hw11]; exact hW.set (k := 92) rfl ⟨n2, n4, p2, by omega, by omega, rfl⟩
      have k13 : w10[92]? = some (ob (a 92) 5 [.ref (a 93), .ref (a 94), .int (nI n2), .int (nI n4), .ref (a 95), .ref (a 96), .ref (a 97), .ref (a 98), .ref (a 99), .ref (a 100), .ref (a 101), .ref (a 102), .int p2]) := by rw [hw11]; exact set_eq k1
      have kp14 := keeps_set kp0 hw11 (by first | exact rfl | decide | omega | (dsimp only; omega))
      refine x_aload_n C dX6_choose_26 rfl 0 rfl rfl ?_
      refine x_get C (ci := 5) (k := 10) 92 k13 rfl in_X6 (by decide) w_330 rfl dX6_choose_27 rfl ?_
      refine x_iconst C (v := 0) dX6_choose_30 (by decide) rfl ?_
      refine x_aload_n C dX6_choose_31 rfl 0 rfl rfl ?_
      refine x_get C (ci := 5) (k := 11) 92 k13 rfl in_X6 (by decide) w_331 rfl dX6_choose_32 rfl ?_
      refine x_iconst C (v := 0) dX6_choose_35 (by decide) rfl ?_
      refine x_iconst C (v := 4) dX6_choose_36 (by decide) rfl ?_
      obtain ⟨_, k15, f16, rfl⟩ := hW12 101 _ rfl
      obtain ⟨_, k17, f18, rfl⟩ := hW12 102 _ rfl
      obtain ⟨w19, hw20⟩ : ∃ w : va_W, w = List.set w10 102 (iA E (a 102) 4 (va_cpy f16 f18 0 0 4)) := ⟨_, rfl⟩
      refine x_copy C 101 102 k15 k17 w_940 w_798 w_797 w_20 (by decide) (by decide) (by decide) (by decide) (by decide) (Nat.le_of_ble_eq_true rfl) (Nat.le_of_ble_eq_true rfl) hw20.symm dX6_choose_37 rfl ?_
      have hW21 : WX (okX E a) w19 := by rw [hw20]; exact hW12.set (k := 102) rfl ⟨_, rfl⟩
      have k22 : w19[92]? = some (ob (a 92) 5 [.ref (a 93), .ref (a 94), .int (nI n2), .int (nI n4), .ref (a 95), .ref (a 96), .ref (a 97), .ref (a 98), .ref (a 99), .ref (a 100), .ref (a 101), .ref (a 102), .int p2]) := by rw [hw20]; exact set_ne k13 (by decide)
      have k23 : w19[101]? = some (iA E (a 101) 4 f16) := by rw [hw20]; exact set_ne k15 (by decide)
      have k24 : w19[102]? = some (iA E (a 102) 4 (va_cpy f16 f18 0 0 4)) := by rw [hw20]; exact set_eq k17
      have kp25 := keeps_set kp14 hw20 (by first | exact rfl | decide | omega | (dsimp only; omega))
      exact x_vret C hr hlk dX6_choose_40 ⟨hW21, kp25⟩
  · skip
    have nf26 := nI_nle' (a := n4) (b := 0) c7 (by omega) (by omega)
    refine x_iload_n C dX6_choose_8 rfl 1 rfl rfl ?_
    refine x_iconst C (v := 4) dX6_choose_9 (by decide) rfl ?_
    refine x_icmp_lt C (tgt := 41) dX6_choose_10 (by decide) rfl (fun _ => ?_) (fun h => absurd h (by decide))
    refine x_aload_n C dX6_choose_41 rfl 0 rfl rfl ?_
    refine x_get C (ci := 5) (k := 10) 92 k1 rfl in_X6 (by decide) w_330 rfl dX6_choose_42 rfl ?_
    refine x_iload_n C dX6_choose_45 rfl 1 rfl rfl ?_
    refine x_iconst C (v := 0) dX6_choose_46 (by decide) rfl ?_
    obtain ⟨_, k27, f28, rfl⟩ := hW 101 _ rfl
    obtain ⟨w29, hw30⟩ : ∃ w : va_W, w = List.set ws 101 (iA E (a 101) 4 (upd f28 (0 : Int32).toNatClampNeg 0)) := ⟨_, rfl⟩
    refine x_iast C 101 k27 (vp_k (j := 0) (by decide) (by decide) (by decide)) hw30.symm dX6_choose_47 rfl ?_
    have hW31 : WX (okX E a) w29 := by rw [hw30]; exact hW.set (k := 101) rfl ⟨_, rfl⟩
    have k32 : w29[92]? = some (ob (a 92) 5 [.ref (a 93), .ref (a 94), .int (nI n2), .int (nI n4), .ref (a 95), .ref (a 96), .ref (a 97), .ref (a 98), .ref (a 99), .ref (a 100), .ref (a 101), .ref (a 102), .int v6]) := by rw [hw30]; exact set_ne k1 (by decide)
    have k33 : w29[101]? = some (iA E (a 101) 4 (upd f28 (0 : Int32).toNatClampNeg 0)) := by rw [hw30]; exact set_eq k27
    have kp34 := keeps_set kp0 hw30 (by first | exact rfl | decide | omega | (dsimp only; omega))
    refine x_iload_n C dX6_choose_48 rfl 3 rfl rfl ?_
    refine x_aload_n C dX6_choose_49 rfl 0 rfl rfl ?_
    refine x_get C (ci := 5) (k := 9) 92 k32 rfl in_X6 (by decide) w_329 rfl dX6_choose_50 rfl ?_
    refine x_iload_n C dX6_choose_53 rfl 1 rfl rfl ?_
    refine x_bipush C (v := 11) dX6_choose_54 (by decide) rfl ?_
    refine x_imul C (v := 0) dX6_choose_56 (by decide) rfl ?_
    refine x_iload_n C dX6_choose_57 rfl 2 rfl rfl ?_
    refine x_si C (As := [.int (nI f0)]) (rest := [.int 0, .ref (a 100), .int p2]) (c_bitCount E l a w29 hW31 ((nI f0))) mf_J6_bitCount_0f7a4 w_926 rfl rfl (Nat.le_of_ble_eq_true rfl) ⟨(Nat.le_of_ble_eq_true rfl), (Nat.le_of_ble_eq_true rfl)⟩ ⟨(Nat.le_of_ble_eq_true rfl), (Nat.le_of_ble_eq_true rfl)⟩ dX6_choose_58 rfl (fun r36 w37 h35 => ?_)
    obtain ⟨hW38, x39⟩ := h35
    refine x_ws hW38 ?_
    obtain ⟨kk40, hk41, ek42⟩ := bc_cnt (i := f0) (by omega)
    refine x_top (x39.trans ek42) ?_
    refine x_iadd C (v := (nI (0 + kk40))) dX6_choose_61 (nI_add 0 kk40) rfl ?_
    obtain ⟨_, k43, f44, rfl⟩ := hW31 100 _ rfl
    refine x_iald C (v := (f44 (nI (0 + kk40)).toNatClampNeg)) 100 k43 (vp_in_nI (by omega) (by decide)) rfl dX6_choose_62 rfl ?_
    refine x_any (fun v45 => ?_)
    refine x_iadd C (v := (p2 + v45)) dX6_choose_63 rfl rfl ?_
    refine x_any (fun v46 => ?_)
    refine x_istore C (lv' := [(4, .int v46), (0, .ref (a 92)), (1, .int 0), (2, .int (nI f0)), (3, .int p2)]) dX6_choose_64 (by decide) rfl rfl ?_
    refine x_iload C dX6_choose_66 0 rfl rfl ?_
    refine x_aload_n C dX6_choose_68 rfl 1 rfl rfl ?_
    refine x_get C (ci := 5) (k := 12) 92 k32 rfl in_X6 (by decide) w_332 rfl dX6_choose_69 rfl ?_
    refine x_icmp_le C (tgt := 84) dX6_choose_72 (by decide) rfl (fun c47 => ?_) (fun c47 => ?_)
    · skip
      refine x_iconst C (v := 0) dX6_choose_84 (by decide) rfl ?_
      refine x_istore C (lv' := [(5, .int 0), (4, .int v46), (0, .ref (a 92)), (1, .int 0), (2, .int (nI f0)), (3, .int p2)]) dX6_choose_85 (by decide) rfl rfl ?_
      have loop87 : ∀ (fu87 : Nat) (j : Nat) (wl87 : va_W), WX (okX E a) wl87 → 252 - j < fu87 → j ≤ 252 → keeps ws wl87 (fun q => q = 92 ∨ q = 101 ∨ q = 102) → X E p l e (xRm 5 0 0) s m ([.ref (a 92), .int 0, .int (nI f0), .int p2] : List Value).toArray below meth c A 7 0 0 (MQ below (va_Qv (fun w => WX (okX E a) w ∧ keeps ws w (fun q => q = 92 ∨ q = 101 ∨ q = 102)) (xB E A) A) ([.ref (a 92), .int 0, .int (nI f0), .int p2] : List Value).toArray s 0 0 A) wl87 87 [(0, .ref (a 92)), (1, .int 0), (2, .int (nI f0)), (3, .int p2), (4, .int v46), (5, .int (nI j))] [] := by
        intro fu87
        induction fu87 with
        | zero => intro j wl87 _ q; omega
        | succ fu87 ih87 =>
          intro j wl87 hWl87 me87 iv87_0 kq87
          refine x_iload C dX6_choose_87 5 rfl rfl ?_
          refine x_aload_n C dX6_choose_89 rfl 0 rfl rfl ?_
          obtain ⟨_, k48, n49, n51, v53, bn50, bn52, rfl⟩ := hWl87 92 _ rfl
          refine x_get C (ci := 5) (k := 7) 92 k48 rfl in_X6 (by decide) w_327 rfl dX6_choose_90 rfl ?_
          refine x_iload_n C dX6_choose_93 rfl 1 rfl rfl ?_
          obtain ⟨_, k54, g55, gb56, rfl⟩ := hWl87 98 _ rfl
          refine x_ialk C (v := nI (g55 0)) 0 (by decide) (by decide) (by decide) 98 k54 rfl dX6_choose_94 rfl ?_
          have bx57 := gb56 0
          refine x_icmp_ge C (tgt := 170) dX6_choose_95 (by decide) rfl (fun c58 => ?_) (fun c58 => ?_)
          · skip
            have nf59 := nI_le' (a := (g55 0)) (b := j) c58 (by omega) (by omega)
            exact x_vret C hr hlk dX6_choose_170 ⟨hWl87, kq87⟩
          · skip
            have nf60 := nI_nle' (a := (g55 0)) (b := j) c58 (by omega) (by omega)
            refine x_iload C dX6_choose_98 4 rfl rfl ?_
            refine x_aload_n C dX6_choose_100 rfl 0 rfl rfl ?_
            refine x_get C (ci := 5) (k := 12) 92 k48 rfl in_X6 (by decide) w_332 rfl dX6_choose_101 rfl ?_
            refine x_icmp_le C (tgt := 170) dX6_choose_104 (by decide) rfl (fun c61 => ?_) (fun c61 => ?_)
            · skip
              exact x_vret C hr hlk dX6_choose_170 ⟨hWl87, kq87⟩
            · skip
              refine x_aload_n C dX6_choose_107 rfl 0 rfl rfl ?_
              refine x_get C (ci := 5) (k := 6) 92 k48 rfl in_X6 (by decide) w_326 rfl dX6_choose_108 rfl ?_
              refine x_iload_n C dX6_choose_111 rfl 1 rfl rfl ?_
              refine x_sipush C (v := 252) dX6_choose_112 (by decide) rfl ?_
              refine x_imul C (v := 0) dX6_choose_115 (by decide) rfl ?_
              refine x_iload C dX6_choose_116 5 rfl rfl ?_
              refine x_iadd C (v := (nI (0 + j))) dX6_choose_118 (nI_add 0 j) rfl ?_
              obtain ⟨_, k62, f63, rfl⟩ := hWl87 97 _ rfl
              refine x_iald C (v := (f63 (nI (0 + j)).toNatClampNeg)) 97 k62 (vp_in_nI (by omega) (by decide)) rfl dX6_choose_119 rfl ?_
              refine x_any (fun v64 => ?_)
              refine x_istore C (lv' := [(6, .int v64), (0, .ref (a 92)), (1, .int 0), (2, .int (nI f0)), (3, .int p2), (4, .int v46), (5, .int (nI j))]) dX6_choose_120 (by decide) rfl rfl ?_
              refine x_iload C dX6_choose_122 0 rfl rfl ?_
              refine x_iload_n C dX6_choose_124 rfl 3 rfl rfl ?_
              refine x_iconst C (v := (-1)) dX6_choose_125 (by decide) rfl ?_
              refine x_ixor C (v := ((nI f0) ^^^ ((-1) : Int32))) dX6_choose_126 rfl rfl ?_
              refine x_any (fun v65 => ?_)
              refine x_iand C (v := (v64 &&& v65)) dX6_choose_127 rfl rfl ?_
              refine x_any (fun v66 => ?_)
              refine x_if_ne C (tgt := 164) dX6_choose_128 (by decide) rfl (fun c67 => ?_) (fun c67 => ?_)
              · skip
                refine x_iinc C (v := (nI (j + 1))) (lv' := [(5, .int (nI (j + 1))), (6, .int v64), (0, .ref (a 92)), (1, .int 0), (2, .int (nI f0)), (3, .int p2), (4, .int v46)]) dX6_choose_164 6 rfl (nI_add j 1) (by decide) rfl rfl ?_
                refine x_goto C (tgt := 87) dX6_choose_167 (by decide) ?_
                refine x_lv (lv1 := [(0, .ref (a 92)), (1, .int 0), (2, .int (nI f0)), (3, .int p2), (4, .int v46), (5, .int (nI (j + 1)))]) [2, 3, 4, 5, 6, 0] rfl ?_
                exact ih87 (j + 1) wl87 hWl87 (by omega) (by omega) kq87
              · skip
                refine x_aload_n C dX6_choose_131 rfl 1 rfl rfl ?_
                refine x_get C (ci := 5) (k := 10) 92 k48 rfl in_X6 (by decide) w_330 rfl dX6_choose_132 rfl ?_
                refine x_iload_n C dX6_choose_135 rfl 2 rfl rfl ?_
                refine x_iload C dX6_choose_136 0 rfl rfl ?_
                obtain ⟨_, k68, f69, rfl⟩ := hWl87 101 _ rfl
                obtain ⟨w70, hw71⟩ : ∃ w : va_W, w = List.set wl87 101 (iA E (a 101) 4 (upd f69 (0 : Int32).toNatClampNeg v64)) := ⟨_, rfl⟩
                refine x_iast C 101 k68 (vp_k (j := 0) (by decide) (by decide) (by decide)) hw71.symm dX6_choose_138 rfl ?_
                have hW72 : WX (okX E a) w70 := by rw [hw71]; exact hWl87.set (k := 101) rfl ⟨_, rfl⟩
                have k73 : w70[92]? = some (ob (a 92) 5 [.ref (a 93), .ref (a 94), .int (nI n49), .int (nI n51), .ref (a 95), .ref (a 96), .ref (a 97), .ref (a 98), .ref (a 99), .ref (a 100), .ref (a 101), .ref (a 102), .int v53]) := by rw [hw71]; exact set_ne k48 (by decide)
                have k74 : w70[98]? = some (iA E (a 98) 4 (fun j => nI (g55 j))) := by rw [hw71]; exact set_ne k54 (by decide)
                have k75 : w70[97]? = some (iA E (a 97) 1008 f63) := by rw [hw71]; exact set_ne k62 (by decide)
                have k76 : w70[101]? = some (iA E (a 101) 4 (upd f69 (0 : Int32).toNatClampNeg v64)) := by rw [hw71]; exact set_eq k68
                have kp77 := keeps_set kq87 hw71 (by first | exact rfl | decide | omega | (dsimp only; omega))
                refine x_aload_n C dX6_choose_139 rfl 1 rfl rfl ?_
                refine x_iload_n C dX6_choose_140 rfl 2 rfl rfl ?_
                refine x_iconst C (v := 1) dX6_choose_141 (by decide) rfl ?_
                refine x_iadd C (v := 1) dX6_choose_142 (by decide) rfl ?_
                refine x_iload_n C dX6_choose_143 rfl 3 rfl rfl ?_
                refine x_iload C dX6_choose_144 0 rfl rfl ?_
                refine x_iconst C (v := (-1)) dX6_choose_146 (by decide) rfl ?_
                refine x_ixor C (v := (v64 ^^^ ((-1) : Int32))) dX6_choose_147 rfl rfl ?_
                refine x_any (fun v78 => ?_)
                obtain ⟨z79, hz80, ez81⟩ := and_low (f := f0) (by omega) v78
                refine x_iand C (v := (nI z79)) dX6_choose_148 ez81 rfl ?_
                refine x_iload_n C dX6_choose_149 rfl 4 rfl rfl ?_
                refine x_aload_n C dX6_choose_150 rfl 1 rfl rfl ?_
                refine x_iload_n C dX6_choose_151 rfl 2 rfl rfl ?_
                refine x_iload C dX6_choose_152 0 rfl rfl ?_
                refine x_si C (As := [.int v64]) (rest := [.int 0, .ref (a 92), .int p2, .int (nI z79), .int 1, .ref (a 92)]) (c_bitCount E l a w70 hW72 v64) mf_J6_bitCount_0f7a4 w_926 rfl rfl (Nat.le_of_ble_eq_true rfl) ⟨(Nat.le_of_ble_eq_true rfl), (Nat.le_of_ble_eq_true rfl)⟩ ⟨(Nat.le_of_ble_eq_true rfl), (Nat.le_of_ble_eq_true rfl)⟩ dX6_choose_154 rfl (fun r83 w84 h82 => ?_)
                obtain ⟨hW85, x86⟩ := h82
                refine x_ws hW85 ?_
                refine x_vi C (As := [.int 0, .int r83]) (rest := [.int p2, .int (nI z79), .int 1, .ref (a 92)]) (c_gain E l a w70 hW72 0 r83 (by omega)) mf_X6_gain w_931 92 k73 rfl rfl rfl (Nat.le_of_ble_eq_true rfl) ⟨(Nat.le_of_ble_eq_true rfl), (Nat.le_of_ble_eq_true rfl)⟩ ⟨(Nat.le_of_ble_eq_true rfl), (Nat.le_of_ble_eq_true rfl)⟩ dX6_choose_157 rfl (fun r88 w89 h87 => ?_)
                have hW90 := h87
                refine x_ws hW90 ?_
                refine x_iadd C (v := (p2 + r88)) dX6_choose_160 rfl rfl ?_
                refine x_any (fun v91 => ?_)
                refine x_vv C (As := [.int 1, .int (nI z79), .int v91]) (rest := []) (c_choose1 E l a w70 hW72 z79 v91 (by omega)) mf_X6_choose w_936 92 k73 rfl rfl rfl (Nat.le_of_ble_eq_true rfl) ⟨(Nat.le_of_ble_eq_true rfl), (Nat.le_of_ble_eq_true rfl)⟩ ⟨(Nat.le_of_ble_eq_true rfl), (Nat.le_of_ble_eq_true rfl)⟩ dX6_choose_161 rfl (fun w94 h92 => ?_)
                obtain ⟨hW95, kq96⟩ := h92
                have k97 : w94[98]? = some (iA E (a 98) 4 (fun j => nI (g55 j))) := keeps_at kq96 k74 (by first | decide | omega | (dsimp only; omega))
                have k98 : w94[97]? = some (iA E (a 97) 1008 f63) := keeps_at kq96 k75 (by first | decide | omega | (dsimp only; omega))
                have kp99 := keeps_tr kp77 kq96 (fun q hq => by first | omega | (dsimp only at *; omega))
                refine x_iinc C (v := (nI (j + 1))) (lv' := [(5, .int (nI (j + 1))), (6, .int v64), (0, .ref (a 92)), (1, .int 0), (2, .int (nI f0)), (3, .int p2), (4, .int v46)]) dX6_choose_164 6 rfl (nI_add j 1) (by decide) rfl rfl ?_
                refine x_goto C (tgt := 87) dX6_choose_167 (by decide) ?_
                refine x_lv (lv1 := [(0, .ref (a 92)), (1, .int 0), (2, .int (nI f0)), (3, .int p2), (4, .int v46), (5, .int (nI (j + 1)))]) [2, 3, 4, 5, 6, 0] rfl ?_
                exact ih87 (j + 1) w94 hW95 (by omega) (by omega) kp99
      refine x_lv (lv1 := [(0, .ref (a 92)), (1, .int 0), (2, .int (nI f0)), (3, .int p2), (4, .int v46), (5, .int 0)]) [2, 3, 4, 5, 1, 0] rfl ?_
      exact loop87 _ 0 w29 hW31 (Nat.lt_succ_self _) (by omega) kp34
    · skip
      refine x_aload_n C dX6_choose_75 rfl 1 rfl rfl ?_
      refine x_iload_n C dX6_choose_76 rfl 2 rfl rfl ?_
      refine x_iconst C (v := 1) dX6_choose_77 (by decide) rfl ?_
      refine x_iadd C (v := 1) dX6_choose_78 (by decide) rfl ?_
      refine x_iload_n C dX6_choose_79 rfl 3 rfl rfl ?_
      refine x_iload_n C dX6_choose_80 rfl 4 rfl rfl ?_
      refine x_vv C (As := [.int 1, .int (nI f0), .int p2]) (rest := []) (c_choose1 E l a w29 hW31 f0 p2 (by omega)) mf_X6_choose w_936 92 k32 rfl rfl rfl (Nat.le_of_ble_eq_true rfl) ⟨(Nat.le_of_ble_eq_true rfl), (Nat.le_of_ble_eq_true rfl)⟩ ⟨(Nat.le_of_ble_eq_true rfl), (Nat.le_of_ble_eq_true rfl)⟩ dX6_choose_81 rfl (fun w102 h100 => ?_)
      obtain ⟨hW103, kq104⟩ := h100
      have k105 : w102[100]? = some (iA E (a 100) 55 f44) := keeps_at kq104 k43 (by first | decide | omega | (dsimp only; omega))
      have kp106 := keeps_tr kp34 kq104 (fun q hq => by first | omega | (dsimp only at *; omega))
      refine x_iconst C (v := 0) dX6_choose_84 (by decide) rfl ?_
      refine x_istore C (lv' := [(5, .int 0), (4, .int v46), (0, .ref (a 92)), (1, .int 0), (2, .int (nI f0)), (3, .int p2)]) dX6_choose_85 (by decide) rfl rfl ?_
      have loop87 : ∀ (fu87 : Nat) (j : Nat) (wl87 : va_W), WX (okX E a) wl87 → 252 - j < fu87 → j ≤ 252 → keeps ws wl87 (fun q => q = 92 ∨ q = 101 ∨ q = 102) → X E p l e (xRm 5 0 0) s m ([.ref (a 92), .int 0, .int (nI f0), .int p2] : List Value).toArray below meth c A 7 0 0 (MQ below (va_Qv (fun w => WX (okX E a) w ∧ keeps ws w (fun q => q = 92 ∨ q = 101 ∨ q = 102)) (xB E A) A) ([.ref (a 92), .int 0, .int (nI f0), .int p2] : List Value).toArray s 0 0 A) wl87 87 [(0, .ref (a 92)), (1, .int 0), (2, .int (nI f0)), (3, .int p2), (4, .int v46), (5, .int (nI j))] [] := by
        intro fu87
        induction fu87 with
        | zero => intro j wl87 _ q; omega
        | succ fu87 ih87 =>
          intro j wl87 hWl87 me87 iv87_0 kq87
          refine x_iload C dX6_choose_87 5 rfl rfl ?_
          refine x_aload_n C dX6_choose_89 rfl 0 rfl rfl ?_
          obtain ⟨_, k107, n108, n110, v112, bn109, bn111, rfl⟩ := hWl87 92 _ rfl
          refine x_get C (ci := 5) (k := 7) 92 k107 rfl in_X6 (by decide) w_327 rfl dX6_choose_90 rfl ?_
          refine x_iload_n C dX6_choose_93 rfl 1 rfl rfl ?_
          obtain ⟨_, k113, g114, gb115, rfl⟩ := hWl87 98 _ rfl
          refine x_ialk C (v := nI (g114 0)) 0 (by decide) (by decide) (by decide) 98 k113 rfl dX6_choose_94 rfl ?_
          have bx116 := gb115 0
          refine x_icmp_ge C (tgt := 170) dX6_choose_95 (by decide) rfl (fun c117 => ?_) (fun c117 => ?_)
          · skip
            have nf118 := nI_le' (a := (g114 0)) (b := j) c117 (by omega) (by omega)
            exact x_vret C hr hlk dX6_choose_170 ⟨hWl87, kq87⟩
          · skip
            have nf119 := nI_nle' (a := (g114 0)) (b := j) c117 (by omega) (by omega)
            refine x_iload C dX6_choose_98 4 rfl rfl ?_
            refine x_aload_n C dX6_choose_100 rfl 0 rfl rfl ?_
            refine x_get C (ci := 5) (k := 12) 92 k107 rfl in_X6 (by decide) w_332 rfl dX6_choose_101 rfl ?_
            refine x_icmp_le C (tgt := 170) dX6_choose_104 (by decide) rfl (fun c120 => ?_) (fun c120 => ?_)
            · skip
              exact x_vret C hr hlk dX6_choose_170 ⟨hWl87, kq87⟩
            · skip
              refine x_aload_n C dX6_choose_107 rfl 0 rfl rfl ?_
              refine x_get C (ci := 5) (k := 6) 92 k107 rfl in_X6 (by decide) w_326 rfl dX6_choose_108 rfl ?_
              refine x_iload_n C dX6_choose_111 rfl 1 rfl rfl ?_
              refine x_sipush C (v := 252) dX6_choose_112 (by decide) rfl ?_
              refine x_imul C (v := 0) dX6_choose_115 (by decide) rfl ?_
              refine x_iload C dX6_choose_116 5 rfl rfl ?_
              refine x_iadd C (v := (nI (0 + j))) dX6_choose_118 (nI_add 0 j) rfl ?_
              obtain ⟨_, k121, f122, rfl⟩ := hWl87 97 _ rfl
              refine x_iald C (v := (f122 (nI (0 + j)).toNatClampNeg)) 97 k121 (vp_in_nI (by omega) (by decide)) rfl dX6_choose_119 rfl ?_
              refine x_any (fun v123 => ?_)
              refine x_istore C (lv' := [(6, .int v123), (0, .ref (a 92)), (1, .int 0), (2, .int (nI f0)), (3, .int p2), (4, .int v46), (5, .int (nI j))]) dX6_choose_120 (by decide) rfl rfl ?_
              refine x_iload C dX6_choose_122 0 rfl rfl ?_
              refine x_iload_n C dX6_choose_124 rfl 3 rfl rfl ?_
              refine x_iconst C (v := (-1)) dX6_choose_125 (by decide) rfl ?_
              refine x_ixor C (v := ((nI f0) ^^^ ((-1) : Int32))) dX6_choose_126 rfl rfl ?_
              refine x_any (fun v124 => ?_)
              refine x_iand C (v := (v123 &&& v124)) dX6_choose_127 rfl rfl ?_
              refine x_any (fun v125 => ?_)
              refine x_if_ne C (tgt := 164) dX6_choose_128 (by decide) rfl (fun c126 => ?_) (fun c126 => ?_)
              · skip
                refine x_iinc C (v := (nI (j + 1))) (lv' := [(5, .int (nI (j + 1))), (6, .int v123), (0, .ref (a 92)), (1, .int 0), (2, .int (nI f0)), (3, .int p2), (4, .int v46)]) dX6_choose_164 6 rfl (nI_add j 1) (by decide) rfl rfl ?_
                refine x_goto C (tgt := 87) dX6_choose_167 (by decide) ?_
                refine x_lv (lv1 := [(0, .ref (a 92)), (1, .int 0), (2, .int (nI f0)), (3, .int p2), (4, .int v46), (5, .int (nI (j + 1)))]) [2, 3, 4, 5, 6, 0] rfl ?_
                exact ih87 (j + 1) wl87 hWl87 (by omega) (by omega) kq87
              · skip
                refine x_aload_n C dX6_choose_131 rfl 1 rfl rfl ?_
                refine x_get C (ci := 5) (k := 10) 92 k107 rfl in_X6 (by decide) w_330 rfl dX6_choose_132 rfl ?_
                refine x_iload_n C dX6_choose_135 rfl 2 rfl rfl ?_
                refine x_iload C dX6_choose_136 0 rfl rfl ?_
                obtain ⟨_, k127, f128, rfl⟩ := hWl87 101 _ rfl
                obtain ⟨w129, hw130⟩ : ∃ w : va_W, w = List.set wl87 101 (iA E (a 101) 4 (upd f128 (0 : Int32).toNatClampNeg v123)) := ⟨_, rfl⟩
                refine x_iast C 101 k127 (vp_k (j := 0) (by decide) (by decide) (by decide)) hw130.symm dX6_choose_138 rfl ?_
                have hW131 : WX (okX E a) w129 := by rw [hw130]; exact hWl87.set (k := 101) rfl ⟨_, rfl⟩
                have k132 : w129[92]? = some (ob (a 92) 5 [.ref (a 93), .ref (a 94), .int (nI n108), .int (nI n110), .ref (a 95), .ref (a 96), .ref (a 97), .ref (a 98), .ref (a 99), .ref (a 100), .ref (a 101), .ref (a 102), .int v112]) := by rw [hw130]; exact set_ne k107 (by decide)
                have k133 : w129[98]? = some (iA E (a 98) 4 (fun j => nI (g114 j))) := by rw [hw130]; exact set_ne k113 (by decide)
                have k134 : w129[97]? = some (iA E (a 97) 1008 f122) := by rw [hw130]; exact set_ne k121 (by decide)
                have k135 : w129[101]? = some (iA E (a 101) 4 (upd f128 (0 : Int32).toNatClampNeg v123)) := by rw [hw130]; exact set_eq k127
                have kp136 := keeps_set kq87 hw130 (by first | exact rfl | decide | omega | (dsimp only; omega))
                refine x_aload_n C dX6_choose_139 rfl 1 rfl rfl ?_
                refine x_iload_n C dX6_choose_140 rfl 2 rfl rfl ?_
                refine x_iconst C (v := 1) dX6_choose_141 (by decide) rfl ?_
                refine x_iadd C (v := 1) dX6_choose_142 (by decide) rfl ?_
                refine x_iload_n C dX6_choose_143 rfl 3 rfl rfl ?_
                refine x_iload C dX6_choose_144 0 rfl rfl ?_
                refine x_iconst C (v := (-1)) dX6_choose_146 (by decide) rfl ?_
                refine x_ixor C (v := (v123 ^^^ ((-1) : Int32))) dX6_choose_147 rfl rfl ?_
                refine x_any (fun v137 => ?_)
                obtain ⟨z138, hz139, ez140⟩ := and_low (f := f0) (by omega) v137
                refine x_iand C (v := (nI z138)) dX6_choose_148 ez140 rfl ?_
                refine x_iload_n C dX6_choose_149 rfl 4 rfl rfl ?_
                refine x_aload_n C dX6_choose_150 rfl 1 rfl rfl ?_
                refine x_iload_n C dX6_choose_151 rfl 2 rfl rfl ?_
                refine x_iload C dX6_choose_152 0 rfl rfl ?_
                refine x_si C (As := [.int v123]) (rest := [.int 0, .ref (a 92), .int p2, .int (nI z138), .int 1, .ref (a 92)]) (c_bitCount E l a w129 hW131 v123) mf_J6_bitCount_0f7a4 w_926 rfl rfl (Nat.le_of_ble_eq_true rfl) ⟨(Nat.le_of_ble_eq_true rfl), (Nat.le_of_ble_eq_true rfl)⟩ ⟨(Nat.le_of_ble_eq_true rfl), (Nat.le_of_ble_eq_true rfl)⟩ dX6_choose_154 rfl (fun r142 w143 h141 => ?_)
                obtain ⟨hW144, x145⟩ := h141
                refine x_ws hW144 ?_
                refine x_vi C (As := [.int 0, .int r142]) (rest := [.int p2, .int (nI z138), .int 1, .ref (a 92)]) (c_gain E l a w129 hW131 0 r142 (by omega)) mf_X6_gain w_931 92 k132 rfl rfl rfl (Nat.le_of_ble_eq_true rfl) ⟨(Nat.le_of_ble_eq_true rfl), (Nat.le_of_ble_eq_true rfl)⟩ ⟨(Nat.le_of_ble_eq_true rfl), (Nat.le_of_ble_eq_true rfl)⟩ dX6_choose_157 rfl (fun r147 w148 h146 => ?_)
                have hW149 := h146
                refine x_ws hW149 ?_
                refine x_iadd C (v := (p2 + r147)) dX6_choose_160 rfl rfl ?_
                refine x_any (fun v150 => ?_)
                refine x_vv C (As := [.int 1, .int (nI z138), .int v150]) (rest := []) (c_choose1 E l a w129 hW131 z138 v150 (by omega)) mf_X6_choose w_936 92 k132 rfl rfl rfl (Nat.le_of_ble_eq_true rfl) ⟨(Nat.le_of_ble_eq_true rfl), (Nat.le_of_ble_eq_true rfl)⟩ ⟨(Nat.le_of_ble_eq_true rfl), (Nat.le_of_ble_eq_true rfl)⟩ dX6_choose_161 rfl (fun w153 h151 => ?_)
                obtain ⟨hW154, kq155⟩ := h151
                have k156 : w153[98]? = some (iA E (a 98) 4 (fun j => nI (g114 j))) := keeps_at kq155 k133 (by first | decide | omega | (dsimp only; omega))
                have k157 : w153[97]? = some (iA E (a 97) 1008 f122) := keeps_at kq155 k134 (by first | decide | omega | (dsimp only; omega))
                have kp158 := keeps_tr kp136 kq155 (fun q hq => by first | omega | (dsimp only at *; omega))
                refine x_iinc C (v := (nI (j + 1))) (lv' := [(5, .int (nI (j + 1))), (6, .int v123), (0, .ref (a 92)), (1, .int 0), (2, .int (nI f0)), (3, .int p2), (4, .int v46)]) dX6_choose_164 6 rfl (nI_add j 1) (by decide) rfl rfl ?_
                refine x_goto C (tgt := 87) dX6_choose_167 (by decide) ?_
                refine x_lv (lv1 := [(0, .ref (a 92)), (1, .int 0), (2, .int (nI f0)), (3, .int p2), (4, .int v46), (5, .int (nI (j + 1)))]) [2, 3, 4, 5, 6, 0] rfl ?_
                exact ih87 (j + 1) w153 hW154 (by omega) (by omega) kp158
      refine x_lv (lv1 := [(0, .ref (a 92)), (1, .int 0), (2, .int (nI f0)), (3, .int p2), (4, .int v46), (5, .int 0)]) [2, 3, 4, 5, 1, 0] rfl ?_
      exact loop87 _ 0 w102 hW103 (Nat.lt_succ_self _) (by omega) kp106
theorem dX6_find_0 : decode cX6_find 0 = .ok (.aload_n 0, 1) := by decide +kernel
theorem dX6_find_1 : decode cX6_find 1 = .ok (.aload_n 1, 1) := by decide +kernel
theorem dX6_find_2 : decode cX6_find 2 = .ok (.getfield 52, 3) := by decide +kernel
theorem dX6_find_5 : decode cX6_find 5 = .ok (.iload_n 3, 1) := by decide +kernel
theorem dX6_find_6 : decode cX6_find 6 = .ok (.aload_n 0, 1) := by decide +kernel
theorem dX6_find_7 : decode cX6_find 7 = .ok (.getfield 9, 3) := by decide +kernel
theorem dX6_find_10 : decode cX6_find 10 = .ok (.bipush 10, 2) := by decide +kernel
theorem dX6_find_12 : decode cX6_find 12 = .ok (.invokevirtual 57, 3) := by decide +kernel
theorem dX6_find_15 : decode cX6_find 15 = .ok (.putfield 18, 3) := by decide +kernel
theorem dX6_find_18 : decode cX6_find 18 = .ok (.aload_n 0, 1) := by decide +kernel
theorem dX6_find_19 : decode cX6_find 19 = .ok (.iconst 0, 1) := by decide +kernel
theorem dX6_find_20 : decode cX6_find 20 = .ok (.putfield 22, 3) := by decide +kernel
theorem dX6_find_23 : decode cX6_find 23 = .ok (.iconst 0, 1) := by decide +kernel
theorem dX6_find_24 : decode cX6_find 24 = .ok (.istore 5, 2) := by decide +kernel
theorem dX6_find_26 : decode cX6_find 26 = .ok (.iload 5, 2) := by decide +kernel
theorem dX6_find_28 : decode cX6_find 28 = .ok (.bipush 8, 2) := by decide +kernel
theorem dX6_find_30 : decode cX6_find 30 = .ok (.if_icmp .ge 75, 3) := by decide +kernel
theorem dX6_find_33 : decode cX6_find 33 = .ok (.aload_n 0, 1) := by decide +kernel
theorem dX6_find_34 : decode cX6_find 34 = .ok (.getfield 22, 3) := by decide +kernel
theorem dX6_find_37 : decode cX6_find 37 = .ok (.iconst 4, 1) := by decide +kernel
theorem dX6_find_38 : decode cX6_find 38 = .ok (.if_icmp .ge 67, 3) := by decide +kernel
theorem dX6_find_41 : decode cX6_find 41 = .ok (.iload 4, 2) := by decide +kernel
theorem dX6_find_43 : decode cX6_find 43 = .ok (.iload 5, 2) := by decide +kernel
theorem dX6_find_45 : decode cX6_find 45 = .ok (.invokestatic 63, 3) := by decide +kernel
theorem dX6_find_48 : decode cX6_find 48 = .ok (.ifCond .eq 51, 3) := by decide +kernel
theorem dX6_find_51 : decode cX6_find 51 = .ok (.aload_n 0, 1) := by decide +kernel
theorem dX6_find_52 : decode cX6_find 52 = .ok (.getfield 25, 3) := by decide +kernel
theorem dX6_find_55 : decode cX6_find 55 = .ok (.aload_n 0, 1) := by decide +kernel
theorem dX6_find_56 : decode cX6_find 56 = .ok (.getfield 22, 3) := by decide +kernel
theorem dX6_find_59 : decode cX6_find 59 = .ok (.iload 5, 2) := by decide +kernel
theorem dX6_find_61 : decode cX6_find 61 = .ok (.iastore, 1) := by decide +kernel
theorem dX6_find_62 : decode cX6_find 62 = .ok (.aload_n 0, 1) := by decide +kernel
theorem dX6_find_63 : decode cX6_find 63 = .ok (.getfield 28, 3) := by decide +kernel
theorem dX6_find_66 : decode cX6_find 66 = .ok (.aload_n 0, 1) := by decide +kernel
theorem dX6_find_67 : decode cX6_find 67 = .ok (.getfield 22, 3) := by decide +kernel
theorem dX6_find_70 : decode cX6_find 70 = .ok (.aload_n 1, 1) := by decide +kernel
theorem dX6_find_71 : decode cX6_find 71 = .ok (.getfield 67, 3) := by decide +kernel
theorem dX6_find_74 : decode cX6_find 74 = .ok (.getfield 70, 3) := by decide +kernel
theorem dX6_find_77 : decode cX6_find 77 = .ok (.iload 5, 2) := by decide +kernel
theorem dX6_find_79 : decode cX6_find 79 = .ok (.iaload, 1) := by decide +kernel
theorem dX6_find_80 : decode cX6_find 80 = .ok (.iastore, 1) := by decide +kernel
theorem dX6_find_81 : decode cX6_find 81 = .ok (.aload_n 0, 1) := by decide +kernel
theorem dX6_find_82 : decode cX6_find 82 = .ok (.aload_n 1, 1) := by decide +kernel
theorem dX6_find_83 : decode cX6_find 83 = .ok (.aload_n 2, 1) := by decide +kernel
theorem dX6_find_84 : decode cX6_find 84 = .ok (.iload 5, 2) := by decide +kernel
theorem dX6_find_86 : decode cX6_find 86 = .ok (.invokevirtual 73, 3) := by decide +kernel
theorem dX6_find_89 : decode cX6_find 89 = .ok (.aload_n 0, 1) := by decide +kernel
theorem dX6_find_90 : decode cX6_find 90 = .ok (.dup, 1) := by decide +kernel
theorem dX6_find_91 : decode cX6_find 91 = .ok (.getfield 22, 3) := by decide +kernel
theorem dX6_find_94 : decode cX6_find 94 = .ok (.iconst 1, 1) := by decide +kernel
theorem dX6_find_95 : decode cX6_find 95 = .ok (.iadd, 1) := by decide +kernel
theorem dX6_find_96 : decode cX6_find 96 = .ok (.putfield 22, 3) := by decide +kernel
theorem dX6_find_99 : decode cX6_find 99 = .ok (.iinc 5 1, 3) := by decide +kernel
theorem dX6_find_102 : decode cX6_find 102 = .ok (.goto (-76), 3) := by decide +kernel
theorem dX6_find_105 : decode cX6_find 105 = .ok (.aload_n 0, 1) := by decide +kernel
theorem dX6_find_106 : decode cX6_find 106 = .ok (.invokevirtual 77, 3) := by decide +kernel
theorem dX6_find_109 : decode cX6_find 109 = .ok (.aload_n 0, 1) := by decide +kernel
theorem dX6_find_110 : decode cX6_find 110 = .ok (.iconst (-1), 1) := by decide +kernel
theorem dX6_find_111 : decode cX6_find 111 = .ok (.putfield 49, 3) := by decide +kernel
theorem dX6_find_114 : decode cX6_find 114 = .ok (.aload_n 0, 1) := by decide +kernel
theorem dX6_find_115 : decode cX6_find 115 = .ok (.iconst 0, 1) := by decide +kernel
theorem dX6_find_116 : decode cX6_find 116 = .ok (.iconst 1, 1) := by decide +kernel
theorem dX6_find_117 : decode cX6_find 117 = .ok (.aload_n 0, 1) := by decide +kernel
theorem dX6_find_118 : decode cX6_find 118 = .ok (.getfield 18, 3) := by decide +kernel
theorem dX6_find_121 : decode cX6_find 121 = .ok (.ishl, 1) := by decide +kernel
theorem dX6_find_122 : decode cX6_find 122 = .ok (.iconst 1, 1) := by decide +kernel
theorem dX6_find_123 : decode cX6_find 123 = .ok (.isub, 1) := by decide +kernel
theorem dX6_find_124 : decode cX6_find 124 = .ok (.iconst 0, 1) := by decide +kernel
theorem dX6_find_125 : decode cX6_find 125 = .ok (.invokevirtual 80, 3) := by decide +kernel
theorem dX6_find_128 : decode cX6_find 128 = .ok (.return_, 1) := by decide +kernel
set_option maxRecDepth 20000 in
set_option maxHeartbeats 4000000 in
theorem c_planFind (E : xE) (l : Launch) (a : Nat → Nat) (ws : va_W) (hW : WX (okX E a) ws) (t : Nat) (ht : tb t) (p2 : Int32) (p3 : Int32) : xV E l yX6_find cX6_find 6 6 0 0 [.ref (a 92), .ref (a t), .ref (a 71), .int p2, .int p3] ws (fun w => WX (okX E a) w ∧ keeps ws w (fun q => (92 ≤ q ∧ q < 103) ∨ (71 ≤ q ∧ q < 79))) := by
  refine xV_start (lv := [(0, .ref (a 92)), (1, .ref (a t)), (2, .ref (a 71)), (3, .int p2), (4, .int p3)]) RX6 (by decide) rfl (Nat.le_of_ble_eq_true rfl) rfl (fun p e s m below meth c A C hr hlk hin => ?_)
  have htb := tb_lo ht
  have kp0 : keeps ws ws (fun q => (92 ≤ q ∧ q < 103) ∨ (71 ≤ q ∧ q < 79)) := keeps_rf
  refine x_aload_n C dX6_find_0 rfl 0 rfl rfl ?_
  refine x_aload_n C dX6_find_1 rfl 1 rfl rfl ?_
  obtain ⟨_, k1, n2, v4, v5, v6, v7, v8, bn3, rfl⟩ := hW (t + 0) _ (okX_t ht (j := 0) rfl)
  refine x_get C (ci := 8) (k := 4) t k1 rfl in_X9 (by decide) w_207 rfl dX6_find_2 rfl ?_
  refine x_iload_n C dX6_find_5 rfl 3 rfl rfl ?_
  refine x_aload_n C dX6_find_6 rfl 0 rfl rfl ?_
  obtain ⟨_, k9, n10, n12, v14, bn11, bn13, rfl⟩ := hW 92 _ rfl
  refine x_get C (ci := 5) (k := 0) 92 k9 rfl in_X6 (by decide) w_320 rfl dX6_find_7 rfl ?_
  refine x_bipush C (v := 10) dX6_find_10 (by decide) rfl ?_
  obtain ⟨_, k15, n16, bn17, rfl⟩ := hW (t + 9) _ (okX_t ht (j := 9) rfl)
  refine x_vi C (As := [.int p2, .ref (a 93), .int 10]) (rest := [.ref (a 92)]) (c_wholeOfA10 E l a ws hW t ht p2) mf_X1_wholeOf w_914 (t + 9) k15 rfl rfl rfl (Nat.le_of_ble_eq_true rfl) ⟨(Nat.le_of_ble_eq_true rfl), (Nat.le_of_ble_eq_true rfl)⟩ ⟨(Nat.le_of_ble_eq_true rfl), (Nat.le_of_ble_eq_true rfl)⟩ dX6_find_12 rfl (fun r19 w20 h18 => ?_)
  obtain ⟨hW21, kq22, ⟨m24, bm25, e23⟩⟩ := h18
  refine x_top e23 ?_
  have k26 : w20[t]? = some (ob (a t) 8 [.int (nI n2), .int v4, .ref (a (t + 1)), .ref (a (t + 4)), .ref (a (t + 9)), .ref (a (t + 16)), .int v5, .int v6, .int v7, .int v8]) := keeps_at kq22 k1 (by first | decide | omega | (dsimp only; omega))
  have k27 : w20[92]? = some (ob (a 92) 5 [.ref (a 93), .ref (a 94), .int (nI n10), .int (nI n12), .ref (a 95), .ref (a 96), .ref (a 97), .ref (a 98), .ref (a 99), .ref (a 100), .ref (a 101), .ref (a 102), .int v14]) := keeps_at kq22 k9 (by first | decide | omega | (dsimp only; omega))
  have k28 : w20[t + 9]? = some (ob (a (t + 9)) 1 [.int (nI n16), .ref (a (t + 10)), .ref (a (t + 11)), .ref (a (t + 12)), .ref (a (t + 13)), .ref (a (t + 14)), .ref (a (t + 15))]) := keeps_at kq22 k15 (by first | decide | omega | (dsimp only; omega))
  have kp29 := keeps_tr kp0 kq22 (fun q hq => by first | omega | (dsimp only at *; omega))
  obtain ⟨w30, hw31⟩ : ∃ w : va_W, w = List.set w20 92 (ob (a 92) 5 [.ref (a 93), .ref (a 94), .int (nI m24), .int (nI n12), .ref (a 95), .ref (a 96), .ref (a 97), .ref (a 98), .ref (a 99), .ref (a 100), .ref (a 101), .ref (a 102), .int v14]) := ⟨_, rfl⟩
  refine x_put C (ci := 5) (k := 2) (ty := .int) 92 k27 rfl in_X6 tyX6 tyX6_ok nmX6 (by decide) w_322 rfl rfl rfl rfl (Nat.le_of_ble_eq_true rfl) hw31.symm dX6_find_15 rfl ?_
  have hW32 : WX (okX E a) w30 := by rw [hw31]; exact hW21.set (k := 92) rfl ⟨m24, n12, v14, by omega, by omega, rfl⟩
  have k33 : w30[t]? = some (ob (a t) 8 [.int (nI n2), .int v4, .ref (a (t + 1)), .ref (a (t + 4)), .ref (a (t + 9)), .ref (a (t + 16)), .int v5, .int v6, .int v7, .int v8]) := by rw [hw31]; exact set_ne k26 (by omega)
  have k34 : w30[92]? = some (ob (a 92) 5 [.ref (a 93), .ref (a 94), .int (nI m24), .int (nI n12), .ref (a 95), .ref (a 96), .ref (a 97), .ref (a 98), .ref (a 99), .ref (a 100), .ref (a 101), .ref (a 102), .int v14]) := by rw [hw31]; exact set_eq k27
  have k35 : w30[t + 9]? = some (ob (a (t + 9)) 1 [.int (nI n16), .ref (a (t + 10)), .ref (a (t + 11)), .ref (a (t + 12)), .ref (a (t + 13)), .ref (a (t + 14)), .ref (a (t + 15))]) := by rw [hw31]; exact set_ne k28 (by omega)
  have kp36 := keeps_set kp29 hw31 (by first | exact rfl | decide | omega | (dsimp only; omega))
  refine x_aload_n C dX6_find_18 rfl 0 rfl rfl ?_
  refine x_iconst C (v := 0) dX6_find_19 (by decide) rfl ?_
  obtain ⟨w37, hw38⟩ : ∃ w : va_W, w = List.set w30 92 (ob (a 92) 5 [.ref (a 93), .ref (a 94), .int (nI m24), .int 0, .ref (a 95), .ref (a 96), .ref (a 97), .ref (a 98), .ref (a 99), .ref (a 100), .ref (a 101), .ref (a 102), .int v14]) := ⟨_, rfl⟩
  refine x_put C (ci := 5) (k := 3) (ty := .int) 92 k34 rfl in_X6 tyX6 tyX6_ok nmX6 (by decide) w_323 rfl rfl rfl rfl (Nat.le_of_ble_eq_true rfl) hw38.symm dX6_find_20 rfl ?_
  have hW39 : WX (okX E a) w37 := by rw [hw38]; exact hW32.set (k := 92) rfl ⟨m24, 0, v14, by omega, by omega, rfl⟩
  have k40 : w37[t]? = some (ob (a t) 8 [.int (nI n2), .int v4, .ref (a (t + 1)), .ref (a (t + 4)), .ref (a (t + 9)), .ref (a (t + 16)), .int v5, .int v6, .int v7, .int v8]) := by rw [hw38]; exact set_ne k33 (by omega)
  have k41 : w37[92]? = some (ob (a 92) 5 [.ref (a 93), .ref (a 94), .int (nI m24), .int 0, .ref (a 95), .ref (a 96), .ref (a 97), .ref (a 98), .ref (a 99), .ref (a 100), .ref (a 101), .ref (a 102), .int v14]) := by rw [hw38]; exact set_eq k34
  have k42 : w37[t + 9]? = some (ob (a (t + 9)) 1 [.int (nI n16), .ref (a (t + 10)), .ref (a (t + 11)), .ref (a (t + 12)), .ref (a (t + 13)), .ref (a (t + 14)), .ref (a (t + 15))]) := by rw [hw38]; exact set_ne k35 (by omega)
  have kp43 := keeps_set kp36 hw38 (by first | exact rfl | decide | omega | (dsimp only; omega))
  refine x_iconst C (v := 0) dX6_find_23 (by decide) rfl ?_
  refine x_istore C (lv' := [(5, .int 0), (0, .ref (a 92)), (1, .ref (a t)), (2, .ref (a 71)), (3, .int p2), (4, .int p3)]) dX6_find_24 (by decide) rfl rfl ?_
  have loop26 : ∀ (fu26 : Nat) (i : Nat) (wl26 : va_W), WX (okX E a) wl26 → 8 - i < fu26 → i ≤ 8 → keeps ws wl26 (fun q => (92 ≤ q ∧ q < 103) ∨ (71 ≤ q ∧ q < 79)) → X E p l e (xRm 6 0 0) s m ([.ref (a 92), .ref (a t), .ref (a 71), .int p2, .int p3] : List Value).toArray below meth c A 6 0 0 (MQ below (va_Qv (fun w => WX (okX E a) w ∧ keeps ws w (fun q => (92 ≤ q ∧ q < 103) ∨ (71 ≤ q ∧ q < 79))) (xB E A) A) ([.ref (a 92), .ref (a t), .ref (a 71), .int p2, .int p3] : List Value).toArray s 0 0 A) wl26 26 [(0, .ref (a 92)), (1, .ref (a t)), (2, .ref (a 71)), (3, .int p2), (4, .int p3), (5, .int (nI i))] [] := by
    intro fu26
    induction fu26 with
    | zero => intro i wl26 _ q; omega
    | succ fu26 ih26 =>
      intro i wl26 hWl26 me26 iv26_0 kq26
      refine x_iload C dX6_find_26 5 rfl rfl ?_
      refine x_bipush C (v := 8) dX6_find_28 (by decide) rfl ?_
      refine x_icmp_ge C (tgt := 105) dX6_find_30 (by decide) rfl (fun c44 => ?_) (fun c44 => ?_)
      · skip
        have nf45 := nI_le' (a := 8) (b := i) c44 (by omega) (by omega)
        refine x_aload_n C dX6_find_105 rfl 0 rfl rfl ?_
        obtain ⟨_, k46, n47, n49, v51, bn48, bn50, rfl⟩ := hWl26 92 _ rfl
        refine x_vv C (As := []) (rest := []) (c_findHopes E l a wl26 hWl26) mf_X6_findHopes w_927 92 k46 rfl rfl rfl (Nat.le_of_ble_eq_true rfl) ⟨(Nat.le_of_ble_eq_true rfl), (Nat.le_of_ble_eq_true rfl)⟩ ⟨(Nat.le_of_ble_eq_true rfl), (Nat.le_of_ble_eq_true rfl)⟩ dX6_find_106 rfl (fun w54 h52 => ?_)
        obtain ⟨hW55, kq56⟩ := h52
        have k57 : w54[92]? = some (ob (a 92) 5 [.ref (a 93), .ref (a 94), .int (nI n47), .int (nI n49), .ref (a 95), .ref (a 96), .ref (a 97), .ref (a 98), .ref (a 99), .ref (a 100), .ref (a 101), .ref (a 102), .int v51]) := keeps_at kq56 k46 (by first | decide | omega | (dsimp only; omega))
        have kp58 := keeps_tr kq26 kq56 (fun q hq => by first | omega | (dsimp only at *; omega))
        refine x_aload_n C dX6_find_109 rfl 0 rfl rfl ?_
        refine x_iconst C (v := (-1)) dX6_find_110 (by decide) rfl ?_
        obtain ⟨w59, hw60⟩ : ∃ w : va_W, w = List.set w54 92 (ob (a 92) 5 [.ref (a 93), .ref (a 94), .int (nI n47), .int (nI n49), .ref (a 95), .ref (a 96), .ref (a 97), .ref (a 98), .ref (a 99), .ref (a 100), .ref (a 101), .ref (a 102), .int (-1)]) := ⟨_, rfl⟩
        refine x_put C (ci := 5) (k := 12) (ty := .int) 92 k57 rfl in_X6 tyX6 tyX6_ok nmX6 (by decide) w_332 rfl rfl rfl rfl (Nat.le_of_ble_eq_true rfl) hw60.symm dX6_find_111 rfl ?_
        have hW61 : WX (okX E a) w59 := by rw [hw60]; exact hW55.set (k := 92) rfl ⟨n47, n49, ((-1) : Int32), by omega, by omega, rfl⟩
        have k62 : w59[92]? = some (ob (a 92) 5 [.ref (a 93), .ref (a 94), .int (nI n47), .int (nI n49), .ref (a 95), .ref (a 96), .ref (a 97), .ref (a 98), .ref (a 99), .ref (a 100), .ref (a 101), .ref (a 102), .int (-1)]) := by rw [hw60]; exact set_eq k57
        have kp63 := keeps_set kp58 hw60 (by first | exact rfl | decide | omega | (dsimp only; omega))
        refine x_aload_n C dX6_find_114 rfl 0 rfl rfl ?_
        refine x_iconst C (v := 0) dX6_find_115 (by decide) rfl ?_
        refine x_iconst C (v := 1) dX6_find_116 (by decide) rfl ?_
        refine x_aload_n C dX6_find_117 rfl 0 rfl rfl ?_
        refine x_get C (ci := 5) (k := 2) 92 k62 rfl in_X6 (by decide) w_322 rfl dX6_find_118 rfl ?_
        obtain ⟨z64, hz65, ez66⟩ := shm_low (n := n47) (by omega)
        refine x_ishl C (v := (nI z64)) dX6_find_121 ez66 rfl ?_
        refine x_iconst C (v := 1) dX6_find_122 (by decide) rfl ?_
        refine x_isub C (v := (nI (z64 - 1))) dX6_find_123 (pk_sub (a := z64) (b := 1) (by omega)) rfl ?_
        refine x_iconst C (v := 0) dX6_find_124 (by decide) rfl ?_
        refine x_vv C (As := [.int 0, .int (nI (z64 - 1)), .int 0]) (rest := []) (c_choose0 E l a w59 hW61 (z64 - 1) (0 : Int32) (by omega)) mf_X6_choose w_936 92 k62 rfl rfl rfl (Nat.le_of_ble_eq_true rfl) ⟨(Nat.le_of_ble_eq_true rfl), (Nat.le_of_ble_eq_true rfl)⟩ ⟨(Nat.le_of_ble_eq_true rfl), (Nat.le_of_ble_eq_true rfl)⟩ dX6_find_125 rfl (fun w69 h67 => ?_)
        obtain ⟨hW70, kq71⟩ := h67
        have kp72 := keeps_tr kp63 kq71 (fun q hq => by first | omega | (dsimp only at *; omega))
        exact x_vret C hr hlk dX6_find_128 ⟨hW70, kp72⟩
      · skip
        have nf73 := nI_nle' (a := 8) (b := i) c44 (by omega) (by omega)
        refine x_aload_n C dX6_find_33 rfl 0 rfl rfl ?_
        obtain ⟨_, k74, n75, n77, v79, bn76, bn78, rfl⟩ := hWl26 92 _ rfl
        refine x_get C (ci := 5) (k := 3) 92 k74 rfl in_X6 (by decide) w_323 rfl dX6_find_34 rfl ?_
        refine x_iconst C (v := 4) dX6_find_37 (by decide) rfl ?_
        refine x_icmp_ge C (tgt := 105) dX6_find_38 (by decide) rfl (fun c80 => ?_) (fun c80 => ?_)
        · skip
          have nf81 := nI_le' (a := 4) (b := n77) c80 (by omega) (by omega)
          refine x_aload_n C dX6_find_105 rfl 0 rfl rfl ?_
          refine x_vv C (As := []) (rest := []) (c_findHopes E l a wl26 hWl26) mf_X6_findHopes w_927 92 k74 rfl rfl rfl (Nat.le_of_ble_eq_true rfl) ⟨(Nat.le_of_ble_eq_true rfl), (Nat.le_of_ble_eq_true rfl)⟩ ⟨(Nat.le_of_ble_eq_true rfl), (Nat.le_of_ble_eq_true rfl)⟩ dX6_find_106 rfl (fun w84 h82 => ?_)
          obtain ⟨hW85, kq86⟩ := h82
          have k87 : w84[92]? = some (ob (a 92) 5 [.ref (a 93), .ref (a 94), .int (nI n75), .int (nI n77), .ref (a 95), .ref (a 96), .ref (a 97), .ref (a 98), .ref (a 99), .ref (a 100), .ref (a 101), .ref (a 102), .int v79]) := keeps_at kq86 k74 (by first | decide | omega | (dsimp only; omega))
          have kp88 := keeps_tr kq26 kq86 (fun q hq => by first | omega | (dsimp only at *; omega))
          refine x_aload_n C dX6_find_109 rfl 0 rfl rfl ?_
          refine x_iconst C (v := (-1)) dX6_find_110 (by decide) rfl ?_
          obtain ⟨w89, hw90⟩ : ∃ w : va_W, w = List.set w84 92 (ob (a 92) 5 [.ref (a 93), .ref (a 94), .int (nI n75), .int (nI n77), .ref (a 95), .ref (a 96), .ref (a 97), .ref (a 98), .ref (a 99), .ref (a 100), .ref (a 101), .ref (a 102), .int (-1)]) := ⟨_, rfl⟩
          refine x_put C (ci := 5) (k := 12) (ty := .int) 92 k87 rfl in_X6 tyX6 tyX6_ok nmX6 (by decide) w_332 rfl rfl rfl rfl (Nat.le_of_ble_eq_true rfl) hw90.symm dX6_find_111 rfl ?_
          have hW91 : WX (okX E a) w89 := by rw [hw90]; exact hW85.set (k := 92) rfl ⟨n75, n77, ((-1) : Int32), by omega, by omega, rfl⟩
          have k92 : w89[92]? = some (ob (a 92) 5 [.ref (a 93), .ref (a 94), .int (nI n75), .int (nI n77), .ref (a 95), .ref (a 96), .ref (a 97), .ref (a 98), .ref (a 99), .ref (a 100), .ref (a 101), .ref (a 102), .int (-1)]) := by rw [hw90]; exact set_eq k87
          have kp93 := keeps_set kp88 hw90 (by first | exact rfl | decide | omega | (dsimp only; omega))
          refine x_aload_n C dX6_find_114 rfl 0 rfl rfl ?_
          refine x_iconst C (v := 0) dX6_find_115 (by decide) rfl ?_
          refine x_iconst C (v := 1) dX6_find_116 (by decide) rfl ?_
          refine x_aload_n C dX6_find_117 rfl 0 rfl rfl ?_
          refine x_get C (ci := 5) (k := 2) 92 k92 rfl in_X6 (by decide) w_322 rfl dX6_find_118 rfl ?_
          obtain ⟨z94, hz95, ez96⟩ := shm_low (n := n75) (by omega)
          refine x_ishl C (v := (nI z94)) dX6_find_121 ez96 rfl ?_
          refine x_iconst C (v := 1) dX6_find_122 (by decide) rfl ?_
          refine x_isub C (v := (nI (z94 - 1))) dX6_find_123 (pk_sub (a := z94) (b := 1) (by omega)) rfl ?_
          refine x_iconst C (v := 0) dX6_find_124 (by decide) rfl ?_
          refine x_vv C (As := [.int 0, .int (nI (z94 - 1)), .int 0]) (rest := []) (c_choose0 E l a w89 hW91 (z94 - 1) (0 : Int32) (by omega)) mf_X6_choose w_936 92 k92 rfl rfl rfl (Nat.le_of_ble_eq_true rfl) ⟨(Nat.le_of_ble_eq_true rfl), (Nat.le_of_ble_eq_true rfl)⟩ ⟨(Nat.le_of_ble_eq_true rfl), (Nat.le_of_ble_eq_true rfl)⟩ dX6_find_125 rfl (fun w99 h97 => ?_)
          obtain ⟨hW100, kq101⟩ := h97
          have kp102 := keeps_tr kp93 kq101 (fun q hq => by first | omega | (dsimp only at *; omega))
          exact x_vret C hr hlk dX6_find_128 ⟨hW100, kp102⟩
        · skip
          have nf103 := nI_nle' (a := 4) (b := n77) c80 (by omega) (by omega)
          refine x_iload C dX6_find_41 4 rfl rfl ?_
          refine x_iload C dX6_find_43 5 rfl rfl ?_
          refine x_sn C (As := [.int p3, .int (nI i)]) (rest := []) (c_isIn E l a wl26 hWl26 p3 ((nI i))) mf_X11_isIn n_915 rfl rfl (Nat.le_of_ble_eq_true rfl) ⟨(Nat.le_of_ble_eq_true rfl), (Nat.le_of_ble_eq_true rfl)⟩ ⟨(Nat.le_of_ble_eq_true rfl), (Nat.le_of_ble_eq_true rfl)⟩ dX6_find_45 rfl (fun r105 w106 h104 => ?_)
          obtain ⟨hW107, zb108, x109⟩ := h104
          refine x_ws hW107 ?_
          refine x_if_eq C (tgt := 99) dX6_find_48 (by decide) rfl (fun c110 => ?_) (fun c110 => ?_)
          · skip
            refine x_iinc C (v := (nI (i + 1))) (lv' := [(5, .int (nI (i + 1))), (0, .ref (a 92)), (1, .ref (a t)), (2, .ref (a 71)), (3, .int p2), (4, .int p3)]) dX6_find_99 5 rfl (nI_add i 1) (by decide) rfl rfl ?_
            refine x_goto C (tgt := 26) dX6_find_102 (by decide) ?_
            refine x_lv (lv1 := [(0, .ref (a 92)), (1, .ref (a t)), (2, .ref (a 71)), (3, .int p2), (4, .int p3), (5, .int (nI (i + 1)))]) [1, 2, 3, 4, 5, 0] rfl ?_
            exact ih26 (i + 1) wl26 hWl26 (by omega) (by omega) kq26
          · skip
            have wi111 := wth_le (a := 0) (b := 7) (j := i) (x109 c110) (by omega) (by decide) (by decide)
            refine x_aload_n C dX6_find_51 rfl 0 rfl rfl ?_
            refine x_get C (ci := 5) (k := 4) 92 k74 rfl in_X6 (by decide) w_324 rfl dX6_find_52 rfl ?_
            refine x_aload_n C dX6_find_55 rfl 0 rfl rfl ?_
            refine x_get C (ci := 5) (k := 3) 92 k74 rfl in_X6 (by decide) w_323 rfl dX6_find_56 rfl ?_
            refine x_iload C dX6_find_59 5 rfl rfl ?_
            obtain ⟨_, k112, f113, rfl⟩ := hWl26 95 _ rfl
            obtain ⟨w114, hw115⟩ : ∃ w : va_W, w = List.set wl26 95 (iA E (a 95) 4 (upd f113 (nI n77).toNatClampNeg (nI i))) := ⟨_, rfl⟩
            refine x_iast C 95 k112 (vp_in_nI (by omega) (by decide)) hw115.symm dX6_find_61 rfl ?_
            have hW116 : WX (okX E a) w114 := by rw [hw115]; exact hWl26.set (k := 95) rfl ⟨_, rfl⟩
            have k117 : w114[92]? = some (ob (a 92) 5 [.ref (a 93), .ref (a 94), .int (nI n75), .int (nI n77), .ref (a 95), .ref (a 96), .ref (a 97), .ref (a 98), .ref (a 99), .ref (a 100), .ref (a 101), .ref (a 102), .int v79]) := by rw [hw115]; exact set_ne k74 (by decide)
            have k118 : w114[95]? = some (iA E (a 95) 4 (upd f113 (nI n77).toNatClampNeg (nI i))) := by rw [hw115]; exact set_eq k112
            have kp119 := keeps_set kq26 hw115 (by first | exact rfl | decide | omega | (dsimp only; omega))
            refine x_aload_n C dX6_find_62 rfl 0 rfl rfl ?_
            refine x_get C (ci := 5) (k := 5) 92 k117 rfl in_X6 (by decide) w_325 rfl dX6_find_63 rfl ?_
            refine x_aload_n C dX6_find_66 rfl 0 rfl rfl ?_
            refine x_get C (ci := 5) (k := 3) 92 k117 rfl in_X6 (by decide) w_323 rfl dX6_find_67 rfl ?_
            refine x_aload_n C dX6_find_70 rfl 1 rfl rfl ?_
            obtain ⟨_, k120, n121, v123, v124, v125, v126, v127, bn122, rfl⟩ := hW116 (t + 0) _ (okX_t ht (j := 0) rfl)
            refine x_get C (ci := 8) (k := 5) t k120 rfl in_X9 (by decide) w_212 rfl dX6_find_71 rfl ?_
            obtain ⟨_, k128, v129, rfl⟩ := hW116 (t + 16) _ (okX_t ht (j := 16) rfl)
            refine x_get C (ci := 9) (k := 3) (t + 16) k128 rfl in_X10 (by decide) w_177 rfl dX6_find_74 rfl ?_
            refine x_iload C dX6_find_77 5 rfl rfl ?_
            obtain ⟨_, k130, f131, rfl⟩ := hW116 (t + 19) _ (okX_t ht (j := 19) rfl)
            refine x_iald C (v := (f131 (nI i).toNatClampNeg)) (t + 19) k130 (vp_in_nI (by omega) (by decide)) rfl dX6_find_79 rfl ?_
            refine x_any (fun v132 => ?_)
            obtain ⟨_, k133, f134, rfl⟩ := hW116 96 _ rfl
            obtain ⟨w135, hw136⟩ : ∃ w : va_W, w = List.set w114 96 (iA E (a 96) 4 (upd f134 (nI n77).toNatClampNeg v132)) := ⟨_, rfl⟩
            refine x_iast C 96 k133 (vp_in_nI (by omega) (by decide)) hw136.symm dX6_find_80 rfl ?_
            have hW137 : WX (okX E a) w135 := by rw [hw136]; exact hW116.set (k := 96) rfl ⟨_, rfl⟩
            have k138 : w135[92]? = some (ob (a 92) 5 [.ref (a 93), .ref (a 94), .int (nI n75), .int (nI n77), .ref (a 95), .ref (a 96), .ref (a 97), .ref (a 98), .ref (a 99), .ref (a 100), .ref (a 101), .ref (a 102), .int v79]) := by rw [hw136]; exact set_ne k117 (by decide)
            have k139 : w135[95]? = some (iA E (a 95) 4 (upd f113 (nI n77).toNatClampNeg (nI i))) := by rw [hw136]; exact set_ne k118 (by decide)
            have k140 : w135[t]? = some (ob (a t) 8 [.int (nI n121), .int v123, .ref (a (t + 1)), .ref (a (t + 4)), .ref (a (t + 9)), .ref (a (t + 16)), .int v124, .int v125, .int v126, .int v127]) := by rw [hw136]; exact set_ne k120 (by omega)
            have k141 : w135[t + 16]? = some (ob (a (t + 16)) 9 [.int v129, .ref (a (t + 17)), .ref (a (t + 18)), .ref (a (t + 19)), .ref (a (t + 20)), .ref (a (t + 21))]) := by rw [hw136]; exact set_ne k128 (by omega)
            have k142 : w135[t + 19]? = some (iA E (a (t + 19)) 8 f131) := by rw [hw136]; exact set_ne k130 (by omega)
            have k143 : w135[96]? = some (iA E (a 96) 4 (upd f134 (nI n77).toNatClampNeg v132)) := by rw [hw136]; exact set_eq k133
            have kp144 := keeps_set kp119 hw136 (by first | exact rfl | decide | omega | (dsimp only; omega))
            refine x_aload_n C dX6_find_81 rfl 0 rfl rfl ?_
            refine x_aload_n C dX6_find_82 rfl 1 rfl rfl ?_
            refine x_aload_n C dX6_find_83 rfl 2 rfl rfl ?_
            refine x_iload C dX6_find_84 5 rfl rfl ?_
            refine x_vv C (As := [.ref (a t), .ref (a 71), .int (nI i)]) (rest := []) (c_findFits E l a w135 hW137 t ht i (by omega) n75 n77 v79 k138 (by omega) (by omega)) mf_X6_findFits w_916 92 k138 rfl rfl rfl (Nat.le_of_ble_eq_true rfl) ⟨(Nat.le_of_ble_eq_true rfl), (Nat.le_of_ble_eq_true rfl)⟩ ⟨(Nat.le_of_ble_eq_true rfl), (Nat.le_of_ble_eq_true rfl)⟩ dX6_find_86 rfl (fun w147 h145 => ?_)
            obtain ⟨hW148, kq149⟩ := h145
            have k150 : w147[92]? = some (ob (a 92) 5 [.ref (a 93), .ref (a 94), .int (nI n75), .int (nI n77), .ref (a 95), .ref (a 96), .ref (a 97), .ref (a 98), .ref (a 99), .ref (a 100), .ref (a 101), .ref (a 102), .int v79]) := keeps_at kq149 k138 (by first | decide | omega | (dsimp only; omega))
            have k151 : w147[95]? = some (iA E (a 95) 4 (upd f113 (nI n77).toNatClampNeg (nI i))) := keeps_at kq149 k139 (by first | decide | omega | (dsimp only; omega))
            have k152 : w147[t]? = some (ob (a t) 8 [.int (nI n121), .int v123, .ref (a (t + 1)), .ref (a (t + 4)), .ref (a (t + 9)), .ref (a (t + 16)), .int v124, .int v125, .int v126, .int v127]) := keeps_at kq149 k140 (by first | decide | omega | (dsimp only; omega))
            have k153 : w147[t + 16]? = some (ob (a (t + 16)) 9 [.int v129, .ref (a (t + 17)), .ref (a (t + 18)), .ref (a (t + 19)), .ref (a (t + 20)), .ref (a (t + 21))]) := keeps_at kq149 k141 (by first | decide | omega | (dsimp only; omega))
            have k154 : w147[t + 19]? = some (iA E (a (t + 19)) 8 f131) := keeps_at kq149 k142 (by first | decide | omega | (dsimp only; omega))
            have k155 : w147[96]? = some (iA E (a 96) 4 (upd f134 (nI n77).toNatClampNeg v132)) := keeps_at kq149 k143 (by first | decide | omega | (dsimp only; omega))
            have kp156 := keeps_tr kp144 kq149 (fun q hq => by first | omega | (dsimp only at *; omega))
            refine x_aload_n C dX6_find_89 rfl 0 rfl rfl ?_
            refine x_dup C dX6_find_90 rfl rfl ?_
            refine x_get C (ci := 5) (k := 3) 92 k150 rfl in_X6 (by decide) w_323 rfl dX6_find_91 rfl ?_
            refine x_iconst C (v := 1) dX6_find_94 (by decide) rfl ?_
            refine x_iadd C (v := (nI (n77 + 1))) dX6_find_95 (nI_add n77 1) rfl ?_
            obtain ⟨w157, hw158⟩ : ∃ w : va_W, w = List.set w147 92 (ob (a 92) 5 [.ref (a 93), .ref (a 94), .int (nI n75), .int (nI (n77 + 1)), .ref (a 95), .ref (a 96), .ref (a 97), .ref (a 98), .ref (a 99), .ref (a 100), .ref (a 101), .ref (a 102), .int v79]) := ⟨_, rfl⟩
            refine x_put C (ci := 5) (k := 3) (ty := .int) 92 k150 rfl in_X6 tyX6 tyX6_ok nmX6 (by decide) w_323 rfl rfl rfl rfl (Nat.le_of_ble_eq_true rfl) hw158.symm dX6_find_96 rfl ?_
            have hW159 : WX (okX E a) w157 := by rw [hw158]; exact hW148.set (k := 92) rfl ⟨n75, (n77 + 1), v79, by omega, by omega, rfl⟩
            have k160 : w157[92]? = some (ob (a 92) 5 [.ref (a 93), .ref (a 94), .int (nI n75), .int (nI (n77 + 1)), .ref (a 95), .ref (a 96), .ref (a 97), .ref (a 98), .ref (a 99), .ref (a 100), .ref (a 101), .ref (a 102), .int v79]) := by rw [hw158]; exact set_eq k150
            have k161 : w157[95]? = some (iA E (a 95) 4 (upd f113 (nI n77).toNatClampNeg (nI i))) := by rw [hw158]; exact set_ne k151 (by decide)
            have k162 : w157[t]? = some (ob (a t) 8 [.int (nI n121), .int v123, .ref (a (t + 1)), .ref (a (t + 4)), .ref (a (t + 9)), .ref (a (t + 16)), .int v124, .int v125, .int v126, .int v127]) := by rw [hw158]; exact set_ne k152 (by omega)
            have k163 : w157[t + 16]? = some (ob (a (t + 16)) 9 [.int v129, .ref (a (t + 17)), .ref (a (t + 18)), .ref (a (t + 19)), .ref (a (t + 20)), .ref (a (t + 21))]) := by rw [hw158]; exact set_ne k153 (by omega)
            have k164 : w157[t + 19]? = some (iA E (a (t + 19)) 8 f131) := by rw [hw158]; exact set_ne k154 (by omega)
            have k165 : w157[96]? = some (iA E (a 96) 4 (upd f134 (nI n77).toNatClampNeg v132)) := by rw [hw158]; exact set_ne k155 (by decide)
            have kp166 := keeps_set kp156 hw158 (by first | exact rfl | decide | omega | (dsimp only; omega))
            refine x_iinc C (v := (nI (i + 1))) (lv' := [(5, .int (nI (i + 1))), (0, .ref (a 92)), (1, .ref (a t)), (2, .ref (a 71)), (3, .int p2), (4, .int p3)]) dX6_find_99 5 rfl (nI_add i 1) (by decide) rfl rfl ?_
            refine x_goto C (tgt := 26) dX6_find_102 (by decide) ?_
            refine x_lv (lv1 := [(0, .ref (a 92)), (1, .ref (a t)), (2, .ref (a 71)), (3, .int p2), (4, .int p3), (5, .int (nI (i + 1)))]) [1, 2, 3, 4, 5, 0] rfl ?_
            exact ih26 (i + 1) w157 hW159 (by omega) (by omega) kp166
  refine x_lv (lv1 := [(0, .ref (a 92)), (1, .ref (a t)), (2, .ref (a 71)), (3, .int p2), (4, .int p3), (5, .int 0)]) [1, 2, 3, 4, 5, 0] rfl ?_
  exact loop26 _ 0 w37 hW39 (Nat.lt_succ_self _) (by omega) kp43
