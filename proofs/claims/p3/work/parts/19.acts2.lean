theorem dX0_canBe_0 : decode cX0_canBe 0 = .ok (.aload_n 0, 1) := by decide +kernel
theorem dX0_canBe_1 : decode cX0_canBe 1 = .ok (.getfield 15, 3) := by decide +kernel
theorem dX0_canBe_4 : decode cX0_canBe 4 = .ok (.iload_n 1, 1) := by decide +kernel
theorem dX0_canBe_5 : decode cX0_canBe 5 = .ok (.iaload, 1) := by decide +kernel
theorem dX0_canBe_6 : decode cX0_canBe 6 = .ok (.istore_n 3, 1) := by decide +kernel
theorem dX0_canBe_7 : decode cX0_canBe 7 = .ok (.aload_n 0, 1) := by decide +kernel
theorem dX0_canBe_8 : decode cX0_canBe 8 = .ok (.getfield 19, 3) := by decide +kernel
theorem dX0_canBe_11 : decode cX0_canBe 11 = .ok (.iload_n 1, 1) := by decide +kernel
theorem dX0_canBe_12 : decode cX0_canBe 12 = .ok (.iaload, 1) := by decide +kernel
theorem dX0_canBe_13 : decode cX0_canBe 13 = .ok (.istore 4, 2) := by decide +kernel
theorem dX0_canBe_15 : decode cX0_canBe 15 = .ok (.iload_n 3, 1) := by decide +kernel
theorem dX0_canBe_16 : decode cX0_canBe 16 = .ok (.bipush 62, 2) := by decide +kernel
theorem dX0_canBe_18 : decode cX0_canBe 18 = .ok (.if_icmp .ne 15, 3) := by decide +kernel
theorem dX0_canBe_21 : decode cX0_canBe 21 = .ok (.aload_n 2, 1) := by decide +kernel
theorem dX0_canBe_22 : decode cX0_canBe 22 = .ok (.getfield 68, 3) := by decide +kernel
theorem dX0_canBe_25 : decode cX0_canBe 25 = .ok (.iload 4, 2) := by decide +kernel
theorem dX0_canBe_27 : decode cX0_canBe 27 = .ok (.invokevirtual 74, 3) := by decide +kernel
theorem dX0_canBe_30 : decode cX0_canBe 30 = .ok (.ifCond .eq 33, 3) := by decide +kernel
theorem dX0_canBe_33 : decode cX0_canBe 33 = .ok (.iload_n 3, 1) := by decide +kernel
theorem dX0_canBe_34 : decode cX0_canBe 34 = .ok (.bipush 33, 2) := by decide +kernel
theorem dX0_canBe_36 : decode cX0_canBe 36 = .ok (.if_icmp .ne 29, 3) := by decide +kernel
theorem dX0_canBe_39 : decode cX0_canBe 39 = .ok (.aload_n 2, 1) := by decide +kernel
theorem dX0_canBe_40 : decode cX0_canBe 40 = .ok (.getfield 79, 3) := by decide +kernel
theorem dX0_canBe_43 : decode cX0_canBe 43 = .ok (.iload 4, 2) := by decide +kernel
theorem dX0_canBe_45 : decode cX0_canBe 45 = .ok (.invokevirtual 83, 3) := by decide +kernel
theorem dX0_canBe_48 : decode cX0_canBe 48 = .ok (.ifCond .eq 15, 3) := by decide +kernel
theorem dX0_canBe_51 : decode cX0_canBe 51 = .ok (.aload_n 2, 1) := by decide +kernel
theorem dX0_canBe_52 : decode cX0_canBe 52 = .ok (.getfield 79, 3) := by decide +kernel
theorem dX0_canBe_55 : decode cX0_canBe 55 = .ok (.iload 4, 2) := by decide +kernel
theorem dX0_canBe_57 : decode cX0_canBe 57 = .ok (.invokevirtual 86, 3) := by decide +kernel
theorem dX0_canBe_60 : decode cX0_canBe 60 = .ok (.ifCond .eq 5, 3) := by decide +kernel
theorem dX0_canBe_63 : decode cX0_canBe 63 = .ok (.iconst 0, 1) := by decide +kernel
theorem dX0_canBe_64 : decode cX0_canBe 64 = .ok (.ireturn, 1) := by decide +kernel
theorem dX0_canBe_65 : decode cX0_canBe 65 = .ok (.aload_n 0, 1) := by decide +kernel
theorem dX0_canBe_66 : decode cX0_canBe 66 = .ok (.getfield 22, 3) := by decide +kernel
theorem dX0_canBe_69 : decode cX0_canBe 69 = .ok (.iload_n 1, 1) := by decide +kernel
theorem dX0_canBe_70 : decode cX0_canBe 70 = .ok (.iaload, 1) := by decide +kernel
theorem dX0_canBe_71 : decode cX0_canBe 71 = .ok (.istore 5, 2) := by decide +kernel
theorem dX0_canBe_73 : decode cX0_canBe 73 = .ok (.iload 5, 2) := by decide +kernel
theorem dX0_canBe_75 : decode cX0_canBe 75 = .ok (.aload_n 0, 1) := by decide +kernel
theorem dX0_canBe_76 : decode cX0_canBe 76 = .ok (.getfield 22, 3) := by decide +kernel
theorem dX0_canBe_79 : decode cX0_canBe 79 = .ok (.iload_n 1, 1) := by decide +kernel
theorem dX0_canBe_80 : decode cX0_canBe 80 = .ok (.iconst 1, 1) := by decide +kernel
theorem dX0_canBe_81 : decode cX0_canBe 81 = .ok (.iadd, 1) := by decide +kernel
theorem dX0_canBe_82 : decode cX0_canBe 82 = .ok (.iaload, 1) := by decide +kernel
theorem dX0_canBe_83 : decode cX0_canBe 83 = .ok (.if_icmp .ge 74, 3) := by decide +kernel
theorem dX0_canBe_86 : decode cX0_canBe 86 = .ok (.aload_n 0, 1) := by decide +kernel
theorem dX0_canBe_87 : decode cX0_canBe 87 = .ok (.getfield 25, 3) := by decide +kernel
theorem dX0_canBe_90 : decode cX0_canBe 90 = .ok (.iload 5, 2) := by decide +kernel
theorem dX0_canBe_92 : decode cX0_canBe 92 = .ok (.iaload, 1) := by decide +kernel
theorem dX0_canBe_93 : decode cX0_canBe 93 = .ok (.istore 6, 2) := by decide +kernel
theorem dX0_canBe_95 : decode cX0_canBe 95 = .ok (.aload_n 2, 1) := by decide +kernel
theorem dX0_canBe_96 : decode cX0_canBe 96 = .ok (.getfield 89, 3) := by decide +kernel
theorem dX0_canBe_99 : decode cX0_canBe 99 = .ok (.iload 6, 2) := by decide +kernel
theorem dX0_canBe_101 : decode cX0_canBe 101 = .ok (.invokevirtual 92, 3) := by decide +kernel
theorem dX0_canBe_104 : decode cX0_canBe 104 = .ok (.ifCond .eq 45, 3) := by decide +kernel
theorem dX0_canBe_107 : decode cX0_canBe 107 = .ok (.iload_n 3, 1) := by decide +kernel
theorem dX0_canBe_108 : decode cX0_canBe 108 = .ok (.bipush 62, 2) := by decide +kernel
theorem dX0_canBe_110 : decode cX0_canBe 110 = .ok (.if_icmp .ne 18, 3) := by decide +kernel
theorem dX0_canBe_113 : decode cX0_canBe 113 = .ok (.aload_n 2, 1) := by decide +kernel
theorem dX0_canBe_114 : decode cX0_canBe 114 = .ok (.getfield 89, 3) := by decide +kernel
theorem dX0_canBe_117 : decode cX0_canBe 117 = .ok (.getfield 97, 3) := by decide +kernel
theorem dX0_canBe_120 : decode cX0_canBe 120 = .ok (.iload 6, 2) := by decide +kernel
theorem dX0_canBe_122 : decode cX0_canBe 122 = .ok (.iaload, 1) := by decide +kernel
theorem dX0_canBe_123 : decode cX0_canBe 123 = .ok (.iload 4, 2) := by decide +kernel
theorem dX0_canBe_125 : decode cX0_canBe 125 = .ok (.if_icmp .eq 24, 3) := by decide +kernel
theorem dX0_canBe_128 : decode cX0_canBe 128 = .ok (.iload_n 3, 1) := by decide +kernel
theorem dX0_canBe_129 : decode cX0_canBe 129 = .ok (.bipush 42, 2) := by decide +kernel
theorem dX0_canBe_131 : decode cX0_canBe 131 = .ok (.if_icmp .ne 20, 3) := by decide +kernel
theorem dX0_canBe_134 : decode cX0_canBe 134 = .ok (.aload_n 2, 1) := by decide +kernel
theorem dX0_canBe_135 : decode cX0_canBe 135 = .ok (.getfield 89, 3) := by decide +kernel
theorem dX0_canBe_138 : decode cX0_canBe 138 = .ok (.getfield 100, 3) := by decide +kernel
theorem dX0_canBe_141 : decode cX0_canBe 141 = .ok (.iload 6, 2) := by decide +kernel
theorem dX0_canBe_143 : decode cX0_canBe 143 = .ok (.iaload, 1) := by decide +kernel
theorem dX0_canBe_144 : decode cX0_canBe 144 = .ok (.bipush 9, 2) := by decide +kernel
theorem dX0_canBe_146 : decode cX0_canBe 146 = .ok (.if_icmp .lt 5, 3) := by decide +kernel
theorem dX0_canBe_149 : decode cX0_canBe 149 = .ok (.iconst 0, 1) := by decide +kernel
theorem dX0_canBe_150 : decode cX0_canBe 150 = .ok (.ireturn, 1) := by decide +kernel
theorem dX0_canBe_151 : decode cX0_canBe 151 = .ok (.iinc 5 1, 3) := by decide +kernel
theorem dX0_canBe_154 : decode cX0_canBe 154 = .ok (.goto (-81), 3) := by decide +kernel
theorem dX0_canBe_157 : decode cX0_canBe 157 = .ok (.iconst 1, 1) := by decide +kernel
theorem dX0_canBe_158 : decode cX0_canBe 158 = .ok (.ireturn, 1) := by decide +kernel
set_option maxRecDepth 20000 in
set_option maxHeartbeats 4000000 in
theorem c_canBe (E : xE) (l : Launch) (a : Nat → Nat) (ws : va_W) (hW : WX (okX E a) ws) (t : Nat) (ht : tb t) (k : Nat) (hk : k ≤ 23) : xI E l yX0_canBe cX0_canBe 7 (some .boolean) 3 [.ref (a 87), .int (nI k), .ref (a t)] ws (fun r w => w = ws ∧ zb r ∧ (¬ r = 0 → tgW ws k)) := by
  refine xI_start (lv := [(0, .ref (a 87)), (1, .int (nI k)), (2, .ref (a t))]) RX0 (by decide) rfl (Nat.le_of_ble_eq_true rfl) rfl (fun p e s m below meth c A C hr hlk => ?_)
  have htb := tb_lo ht
  obtain ⟨_, k1, f2, rfl⟩ := hW 88 _ rfl
  obtain ⟨_, k3, f4, rfl⟩ := hW 89 _ rfl
  refine x_aload_n C dX0_canBe_0 rfl 0 rfl rfl ?_
  obtain ⟨_, k5, n6, n8, bn7, bn9, rfl⟩ := hW 87 _ rfl
  refine x_get C (ci := 0) (k := 1) 87 k5 rfl in_X0 (by decide) w_296 rfl dX0_canBe_1 rfl ?_
  refine x_iload_n C dX0_canBe_4 rfl 1 rfl rfl ?_
  refine x_ialk C (v := (f2 k)) k (nI_clamp (by omega)) (nI_pos (by omega)) (by omega) 88 k1 rfl dX0_canBe_5 rfl ?_
  refine x_istore_n C (lv' := [(3, .int (f2 k)), (0, .ref (a 87)), (1, .int (nI k)), (2, .ref (a t))]) dX0_canBe_6 rfl (by decide) rfl rfl ?_
  refine x_aload_n C dX0_canBe_7 rfl 1 rfl rfl ?_
  refine x_get C (ci := 0) (k := 2) 87 k5 rfl in_X0 (by decide) w_297 rfl dX0_canBe_8 rfl ?_
  refine x_iload_n C dX0_canBe_11 rfl 2 rfl rfl ?_
  refine x_ialk C (v := (f4 k)) k (nI_clamp (by omega)) (nI_pos (by omega)) (by omega) 89 k3 rfl dX0_canBe_12 rfl ?_
  refine x_istore C (lv' := [(4, .int (f4 k)), (3, .int (f2 k)), (0, .ref (a 87)), (1, .int (nI k)), (2, .ref (a t))]) dX0_canBe_13 (by decide) rfl rfl ?_
  refine x_iload_n C dX0_canBe_15 rfl 1 rfl rfl ?_
  refine x_bipush C (v := 62) dX0_canBe_16 (by decide) rfl ?_
  refine x_icmp_ne C (tgt := 33) dX0_canBe_18 (by decide) rfl (fun c10 => ?_) (fun c10 => ?_)
  · skip
    refine x_iload_n C dX0_canBe_33 rfl 1 rfl rfl ?_
    refine x_bipush C (v := 33) dX0_canBe_34 (by decide) rfl ?_
    refine x_icmp_ne C (tgt := 65) dX0_canBe_36 (by decide) rfl (fun c11 => ?_) (fun c11 => ?_)
    · skip
      refine x_aload_n C dX0_canBe_65 rfl 2 rfl rfl ?_
      refine x_get C (ci := 0) (k := 3) 87 k5 rfl in_X0 (by decide) w_298 rfl dX0_canBe_66 rfl ?_
      refine x_iload_n C dX0_canBe_69 rfl 3 rfl rfl ?_
      obtain ⟨_, k12, g13, gb14, rfl⟩ := hW 90 _ rfl
      refine x_ialk C (v := nI (g13 k)) k (nI_clamp (by omega)) (nI_pos (by omega)) (by omega) 90 k12 rfl dX0_canBe_70 rfl ?_
      have bx15 := gb14 k
      refine x_istore C (lv' := [(5, .int (nI (g13 k))), (4, .int (f4 k)), (3, .int (f2 k)), (0, .ref (a 87)), (1, .int (nI k)), (2, .ref (a t))]) dX0_canBe_71 (by decide) rfl rfl ?_
      have loop73 : ∀ (fu73 : Nat) (jj : Nat), True → 140 - jj < fu73 → jj ≤ 140 → X E p l e (xRm 3 0 0) s m ([.ref (a 87), .int (nI k), .ref (a t)] : List Value).toArray below meth c A 7 0 0 (MQ below (va_Qi (fun r w => w = ws ∧ zb r ∧ (¬ r = 0 → tgW ws k)) (xB E A) A) ([.ref (a 87), .int (nI k), .ref (a t)] : List Value).toArray s 0 0 A) ws 73 [(0, .ref (a 87)), (1, .int (nI k)), (2, .ref (a t)), (3, .int (f2 k)), (4, .int (f4 k)), (5, .int (nI jj))] [] := by
        intro fu73
        induction fu73 with
        | zero => intro jj _ q; omega
        | succ fu73 ih73 =>
          intro jj _ me73 iv73_0
          refine x_iload C dX0_canBe_73 5 rfl rfl ?_
          refine x_aload_n C dX0_canBe_75 rfl 0 rfl rfl ?_
          refine x_get C (ci := 0) (k := 3) 87 k5 rfl in_X0 (by decide) w_298 rfl dX0_canBe_76 rfl ?_
          refine x_iload_n C dX0_canBe_79 rfl 1 rfl rfl ?_
          refine x_iconst C (v := 1) dX0_canBe_80 (by decide) rfl ?_
          refine x_iadd C (v := (nI (k + 1))) dX0_canBe_81 (nI_add k 1) rfl ?_
          refine x_ialk C (v := nI (g13 (k + 1))) (k + 1) (nI_clamp (by omega)) (nI_pos (by omega)) (by omega) 90 k12 rfl dX0_canBe_82 rfl ?_
          have bx16 := gb14 (k + 1)
          refine x_icmp_ge C (tgt := 157) dX0_canBe_83 (by decide) rfl (fun c17 => ?_) (fun c17 => ?_)
          · skip
            have nf18 := nI_le' (a := (g13 (k + 1))) (b := jj) c17 (by omega) (by omega)
            refine x_iconst C (v := 1) dX0_canBe_157 (by decide) rfl ?_
            exact x_zret C hr hlk rfl dX0_canBe_158 ⟨rfl, (Or.inr rfl), (fun _ => (tgW_iff k1 k3).mpr (fun q => by first | assumption | (rcases q with q | q <;> first | exact absurd q (by assumption) | assumption)))⟩
          · skip
            have nf19 := nI_nle' (a := (g13 (k + 1))) (b := jj) c17 (by omega) (by omega)
            refine x_aload_n C dX0_canBe_86 rfl 0 rfl rfl ?_
            refine x_get C (ci := 0) (k := 4) 87 k5 rfl in_X0 (by decide) w_299 rfl dX0_canBe_87 rfl ?_
            refine x_iload C dX0_canBe_90 5 rfl rfl ?_
            obtain ⟨_, k20, g21, gb22, rfl⟩ := hW 91 _ rfl
            refine x_ialk C (v := nI (g21 jj)) jj (nI_clamp (by omega)) (nI_pos (by omega)) (by omega) 91 k20 rfl dX0_canBe_92 rfl ?_
            have bx23 := gb22 jj
            refine x_istore C (lv' := [(6, .int (nI (g21 jj))), (0, .ref (a 87)), (1, .int (nI k)), (2, .ref (a t)), (3, .int (f2 k)), (4, .int (f4 k)), (5, .int (nI jj))]) dX0_canBe_93 (by decide) rfl rfl ?_
            refine x_aload_n C dX0_canBe_95 rfl 3 rfl rfl ?_
            obtain ⟨_, k24, n25, v27, v28, v29, v30, v31, bn26, rfl⟩ := hW (t + 0) _ (okX_t ht (j := 0) rfl)
            refine x_get C (ci := 8) (k := 4) t k24 rfl in_X9 (by decide) w_210 rfl dX0_canBe_96 rfl ?_
            refine x_iload C dX0_canBe_99 0 rfl rfl ?_
            obtain ⟨_, k32, n33, bn34, rfl⟩ := hW (t + 9) _ (okX_t ht (j := 9) rfl)
            refine x_vi C (As := [.int (nI (g21 jj))]) (rest := []) (c_Eggs_isWhole E l a ws hW t ht ((nI (g21 jj)))) mf_X1_isWhole w_711 (t + 9) k32 rfl rfl rfl (Nat.le_of_ble_eq_true rfl) ⟨(Nat.le_of_ble_eq_true rfl), (Nat.le_of_ble_eq_true rfl)⟩ ⟨(Nat.le_of_ble_eq_true rfl), (Nat.le_of_ble_eq_true rfl)⟩ dX0_canBe_101 rfl (fun r36 w37 h35 => ?_)
            obtain ⟨hW38, zb39, x40⟩ := h35
            refine x_ws hW38 ?_
            refine x_if_eq C (tgt := 149) dX0_canBe_104 (by decide) rfl (fun c41 => ?_) (fun c41 => ?_)
            · skip
              refine x_iconst C (v := 0) dX0_canBe_149 (by decide) rfl ?_
              exact x_zret C hr hlk rfl dX0_canBe_150 ⟨rfl, (Or.inl rfl), (fun q => absurd rfl q)⟩
            · skip
              have wi42 := wth_le (a := 0) (b := 47) (j := (g21 jj)) (x40 c41) (by omega) (by decide) (by decide)
              refine x_iload_n C dX0_canBe_107 rfl 4 rfl rfl ?_
              refine x_bipush C (v := 62) dX0_canBe_108 (by decide) rfl ?_
              refine x_icmp_ne C (tgt := 128) dX0_canBe_110 (by decide) rfl (fun c43 => ?_) (fun c43 => ?_)
              · skip
                refine x_iload_n C dX0_canBe_128 rfl 4 rfl rfl ?_
                refine x_bipush C (v := 42) dX0_canBe_129 (by decide) rfl ?_
                refine x_icmp_ne C (tgt := 151) dX0_canBe_131 (by decide) rfl (fun c44 => ?_) (fun c44 => ?_)
                · skip
                  refine x_iinc C (v := (nI (jj + 1))) (lv' := [(5, .int (nI (jj + 1))), (6, .int (nI (g21 jj))), (0, .ref (a 87)), (1, .int (nI k)), (2, .ref (a t)), (3, .int (f2 k)), (4, .int (f4 k))]) dX0_canBe_151 6 rfl (nI_add jj 1) (by decide) rfl rfl ?_
                  refine x_goto C (tgt := 73) dX0_canBe_154 (by decide) ?_
                  refine x_lv (lv1 := [(0, .ref (a 87)), (1, .int (nI k)), (2, .ref (a t)), (3, .int (f2 k)), (4, .int (f4 k)), (5, .int (nI (jj + 1)))]) [2, 3, 4, 5, 6, 0] rfl ?_
                  exact ih73 (jj + 1) trivial (by omega) (by omega)
                · skip
                  refine x_aload_n C dX0_canBe_134 rfl 3 rfl rfl ?_
                  refine x_get C (ci := 8) (k := 4) t k24 rfl in_X9 (by decide) w_210 rfl dX0_canBe_135 rfl ?_
                  refine x_get C (ci := 1) (k := 5) (t + 9) k32 rfl in_X1 (by decide) w_141 rfl dX0_canBe_138 rfl ?_
                  refine x_iload C dX0_canBe_141 0 rfl rfl ?_
                  obtain ⟨_, k45, f46, rfl⟩ := hW (t + 14) _ (okX_t ht (j := 14) rfl)
                  refine x_iald C (v := (f46 (nI (g21 jj)).toNatClampNeg)) (t + 14) k45 (vp_in_nI (by omega) (by decide)) rfl dX0_canBe_143 rfl ?_
                  refine x_any (fun v47 => ?_)
                  refine x_bipush C (v := 9) dX0_canBe_144 (by decide) rfl ?_
                  refine x_icmp_lt C (tgt := 151) dX0_canBe_146 (by decide) rfl (fun c48 => ?_) (fun c48 => ?_)
                  · skip
                    refine x_iinc C (v := (nI (jj + 1))) (lv' := [(5, .int (nI (jj + 1))), (6, .int (nI (g21 jj))), (0, .ref (a 87)), (1, .int (nI k)), (2, .ref (a t)), (3, .int (f2 k)), (4, .int (f4 k))]) dX0_canBe_151 6 rfl (nI_add jj 1) (by decide) rfl rfl ?_
                    refine x_goto C (tgt := 73) dX0_canBe_154 (by decide) ?_
                    refine x_lv (lv1 := [(0, .ref (a 87)), (1, .int (nI k)), (2, .ref (a t)), (3, .int (f2 k)), (4, .int (f4 k)), (5, .int (nI (jj + 1)))]) [2, 3, 4, 5, 6, 0] rfl ?_
                    exact ih73 (jj + 1) trivial (by omega) (by omega)
                  · skip
                    refine x_iconst C (v := 0) dX0_canBe_149 (by decide) rfl ?_
                    exact x_zret C hr hlk rfl dX0_canBe_150 ⟨rfl, (Or.inl rfl), (fun q => absurd rfl q)⟩
              · skip
                refine x_aload_n C dX0_canBe_113 rfl 3 rfl rfl ?_
                refine x_get C (ci := 8) (k := 4) t k24 rfl in_X9 (by decide) w_210 rfl dX0_canBe_114 rfl ?_
                refine x_get C (ci := 1) (k := 4) (t + 9) k32 rfl in_X1 (by decide) w_136 rfl dX0_canBe_117 rfl ?_
                refine x_iload C dX0_canBe_120 0 rfl rfl ?_
                obtain ⟨_, k49, g50, gb51, rfl⟩ := hW (t + 13) _ (okX_t ht (j := 13) rfl)
                refine x_ialk C (v := nI (g50 (g21 jj))) (g21 jj) (nI_clamp (by omega)) (nI_pos (by omega)) (by omega) (t + 13) k49 rfl dX0_canBe_122 rfl ?_
                have bx52 := gb51 (g21 jj)
                refine x_iload C dX0_canBe_123 5 rfl rfl ?_
                refine x_icmp_eq C (tgt := 149) dX0_canBe_125 (by decide) rfl (fun c53 => ?_) (fun c53 => ?_)
                · skip
                  refine x_iconst C (v := 0) dX0_canBe_149 (by decide) rfl ?_
                  exact x_zret C hr hlk rfl dX0_canBe_150 ⟨rfl, (Or.inl rfl), (fun q => absurd rfl q)⟩
                · skip
                  refine x_iload_n C dX0_canBe_128 rfl 4 rfl rfl ?_
                  refine x_bipush C (v := 42) dX0_canBe_129 (by decide) rfl ?_
                  refine x_icmp_ne C (tgt := 151) dX0_canBe_131 (by decide) rfl (fun c54 => ?_) (fun c54 => ?_)
                  · skip
                    refine x_iinc C (v := (nI (jj + 1))) (lv' := [(5, .int (nI (jj + 1))), (6, .int (nI (g21 jj))), (0, .ref (a 87)), (1, .int (nI k)), (2, .ref (a t)), (3, .int (f2 k)), (4, .int (f4 k))]) dX0_canBe_151 6 rfl (nI_add jj 1) (by decide) rfl rfl ?_
                    refine x_goto C (tgt := 73) dX0_canBe_154 (by decide) ?_
                    refine x_lv (lv1 := [(0, .ref (a 87)), (1, .int (nI k)), (2, .ref (a t)), (3, .int (f2 k)), (4, .int (f4 k)), (5, .int (nI (jj + 1)))]) [2, 3, 4, 5, 6, 0] rfl ?_
                    exact ih73 (jj + 1) trivial (by omega) (by omega)
                  · skip
                    refine x_aload_n C dX0_canBe_134 rfl 3 rfl rfl ?_
                    refine x_get C (ci := 8) (k := 4) t k24 rfl in_X9 (by decide) w_210 rfl dX0_canBe_135 rfl ?_
                    refine x_get C (ci := 1) (k := 5) (t + 9) k32 rfl in_X1 (by decide) w_141 rfl dX0_canBe_138 rfl ?_
                    refine x_iload C dX0_canBe_141 0 rfl rfl ?_
                    obtain ⟨_, k55, f56, rfl⟩ := hW (t + 14) _ (okX_t ht (j := 14) rfl)
                    refine x_iald C (v := (f56 (nI (g21 jj)).toNatClampNeg)) (t + 14) k55 (vp_in_nI (by omega) (by decide)) rfl dX0_canBe_143 rfl ?_
                    refine x_any (fun v57 => ?_)
                    refine x_bipush C (v := 9) dX0_canBe_144 (by decide) rfl ?_
                    refine x_icmp_lt C (tgt := 151) dX0_canBe_146 (by decide) rfl (fun c58 => ?_) (fun c58 => ?_)
                    · skip
                      refine x_iinc C (v := (nI (jj + 1))) (lv' := [(5, .int (nI (jj + 1))), (6, .int (nI (g21 jj))), (0, .ref (a 87)), (1, .int (nI k)), (2, .ref (a t)), (3, .int (f2 k)), (4, .int (f4 k))]) dX0_canBe_151 6 rfl (nI_add jj 1) (by decide) rfl rfl ?_
                      refine x_goto C (tgt := 73) dX0_canBe_154 (by decide) ?_
                      refine x_lv (lv1 := [(0, .ref (a 87)), (1, .int (nI k)), (2, .ref (a t)), (3, .int (f2 k)), (4, .int (f4 k)), (5, .int (nI (jj + 1)))]) [2, 3, 4, 5, 6, 0] rfl ?_
                      exact ih73 (jj + 1) trivial (by omega) (by omega)
                    · skip
                      refine x_iconst C (v := 0) dX0_canBe_149 (by decide) rfl ?_
                      exact x_zret C hr hlk rfl dX0_canBe_150 ⟨rfl, (Or.inl rfl), (fun q => absurd rfl q)⟩
      refine x_lv (lv1 := [(0, .ref (a 87)), (1, .int (nI k)), (2, .ref (a t)), (3, .int (f2 k)), (4, .int (f4 k)), (5, .int (nI (g13 k)))]) [3, 4, 5, 2, 1, 0] rfl ?_
      exact loop73 _ (g13 k) trivial (Nat.lt_succ_self _) (by omega)
    · skip
      refine x_aload_n C dX0_canBe_39 rfl 4 rfl rfl ?_
      obtain ⟨_, k59, n60, v62, v63, v64, v65, v66, bn61, rfl⟩ := hW (t + 0) _ (okX_t ht (j := 0) rfl)
      refine x_get C (ci := 8) (k := 5) t k59 rfl in_X9 (by decide) w_214 rfl dX0_canBe_40 rfl ?_
      refine x_iload C dX0_canBe_43 0 rfl rfl ?_
      obtain ⟨_, k67, v68, rfl⟩ := hW (t + 16) _ (okX_t ht (j := 16) rfl)
      refine x_vi C (As := [.int (f4 k)]) (rest := []) (c_Works_isTold E l a ws hW t ht ((f4 k))) mf_X10_isTold w_701 (t + 16) k67 rfl rfl rfl (Nat.le_of_ble_eq_true rfl) ⟨(Nat.le_of_ble_eq_true rfl), (Nat.le_of_ble_eq_true rfl)⟩ ⟨(Nat.le_of_ble_eq_true rfl), (Nat.le_of_ble_eq_true rfl)⟩ dX0_canBe_45 rfl (fun r70 w71 h69 => ?_)
      obtain ⟨hW72, zb73, x74⟩ := h69
      refine x_ws hW72 ?_
      refine x_if_eq C (tgt := 63) dX0_canBe_48 (by decide) rfl (fun c75 => ?_) (fun c75 => ?_)
      · skip
        refine x_iconst C (v := 0) dX0_canBe_63 (by decide) rfl ?_
        exact x_zret C hr hlk rfl dX0_canBe_64 ⟨rfl, (Or.inl rfl), (fun q => absurd rfl q)⟩
      · skip
        have wt76 := x74 c75
        refine x_aload_n C dX0_canBe_51 rfl 4 rfl rfl ?_
        refine x_get C (ci := 8) (k := 5) t k59 rfl in_X9 (by decide) w_214 rfl dX0_canBe_52 rfl ?_
        refine x_iload C dX0_canBe_55 0 rfl rfl ?_
        refine x_vi C (As := [.int (f4 k)]) (rest := []) (c_Works_isDone E l a ws hW t ht ((f4 k))) mf_X10_isDone w_706 (t + 16) k67 rfl rfl rfl (Nat.le_of_ble_eq_true rfl) ⟨(Nat.le_of_ble_eq_true rfl), (Nat.le_of_ble_eq_true rfl)⟩ ⟨(Nat.le_of_ble_eq_true rfl), (Nat.le_of_ble_eq_true rfl)⟩ dX0_canBe_57 rfl (fun r78 w79 h77 => ?_)
        obtain ⟨hW80, zb81, x82⟩ := h77
        refine x_ws hW80 ?_
        refine x_if_eq C (tgt := 65) dX0_canBe_60 (by decide) rfl (fun c83 => ?_) (fun c83 => ?_)
        · skip
          refine x_aload_n C dX0_canBe_65 rfl 2 rfl rfl ?_
          refine x_get C (ci := 0) (k := 3) 87 k5 rfl in_X0 (by decide) w_298 rfl dX0_canBe_66 rfl ?_
          refine x_iload_n C dX0_canBe_69 rfl 3 rfl rfl ?_
          obtain ⟨_, k84, g85, gb86, rfl⟩ := hW 90 _ rfl
          refine x_ialk C (v := nI (g85 k)) k (nI_clamp (by omega)) (nI_pos (by omega)) (by omega) 90 k84 rfl dX0_canBe_70 rfl ?_
          have bx87 := gb86 k
          refine x_istore C (lv' := [(5, .int (nI (g85 k))), (4, .int (f4 k)), (3, .int (f2 k)), (0, .ref (a 87)), (1, .int (nI k)), (2, .ref (a t))]) dX0_canBe_71 (by decide) rfl rfl ?_
          have loop73 : ∀ (fu73 : Nat) (jj : Nat), True → 140 - jj < fu73 → jj ≤ 140 → X E p l e (xRm 3 0 0) s m ([.ref (a 87), .int (nI k), .ref (a t)] : List Value).toArray below meth c A 7 0 0 (MQ below (va_Qi (fun r w => w = ws ∧ zb r ∧ (¬ r = 0 → tgW ws k)) (xB E A) A) ([.ref (a 87), .int (nI k), .ref (a t)] : List Value).toArray s 0 0 A) ws 73 [(0, .ref (a 87)), (1, .int (nI k)), (2, .ref (a t)), (3, .int (f2 k)), (4, .int (f4 k)), (5, .int (nI jj))] [] := by
            intro fu73
            induction fu73 with
            | zero => intro jj _ q; omega
            | succ fu73 ih73 =>
              intro jj _ me73 iv73_0
              refine x_iload C dX0_canBe_73 5 rfl rfl ?_
              refine x_aload_n C dX0_canBe_75 rfl 0 rfl rfl ?_
              refine x_get C (ci := 0) (k := 3) 87 k5 rfl in_X0 (by decide) w_298 rfl dX0_canBe_76 rfl ?_
              refine x_iload_n C dX0_canBe_79 rfl 1 rfl rfl ?_
              refine x_iconst C (v := 1) dX0_canBe_80 (by decide) rfl ?_
              refine x_iadd C (v := (nI (k + 1))) dX0_canBe_81 (nI_add k 1) rfl ?_
              refine x_ialk C (v := nI (g85 (k + 1))) (k + 1) (nI_clamp (by omega)) (nI_pos (by omega)) (by omega) 90 k84 rfl dX0_canBe_82 rfl ?_
              have bx88 := gb86 (k + 1)
              refine x_icmp_ge C (tgt := 157) dX0_canBe_83 (by decide) rfl (fun c89 => ?_) (fun c89 => ?_)
              · skip
                have nf90 := nI_le' (a := (g85 (k + 1))) (b := jj) c89 (by omega) (by omega)
                refine x_iconst C (v := 1) dX0_canBe_157 (by decide) rfl ?_
                exact x_zret C hr hlk rfl dX0_canBe_158 ⟨rfl, (Or.inr rfl), (fun _ => (tgW_iff k1 k3).mpr (fun q => by first | assumption | (rcases q with q | q <;> first | exact absurd q (by assumption) | assumption)))⟩
              · skip
                have nf91 := nI_nle' (a := (g85 (k + 1))) (b := jj) c89 (by omega) (by omega)
                refine x_aload_n C dX0_canBe_86 rfl 0 rfl rfl ?_
                refine x_get C (ci := 0) (k := 4) 87 k5 rfl in_X0 (by decide) w_299 rfl dX0_canBe_87 rfl ?_
                refine x_iload C dX0_canBe_90 5 rfl rfl ?_
                obtain ⟨_, k92, g93, gb94, rfl⟩ := hW 91 _ rfl
                refine x_ialk C (v := nI (g93 jj)) jj (nI_clamp (by omega)) (nI_pos (by omega)) (by omega) 91 k92 rfl dX0_canBe_92 rfl ?_
                have bx95 := gb94 jj
                refine x_istore C (lv' := [(6, .int (nI (g93 jj))), (0, .ref (a 87)), (1, .int (nI k)), (2, .ref (a t)), (3, .int (f2 k)), (4, .int (f4 k)), (5, .int (nI jj))]) dX0_canBe_93 (by decide) rfl rfl ?_
                refine x_aload_n C dX0_canBe_95 rfl 3 rfl rfl ?_
                refine x_get C (ci := 8) (k := 4) t k59 rfl in_X9 (by decide) w_210 rfl dX0_canBe_96 rfl ?_
                refine x_iload C dX0_canBe_99 0 rfl rfl ?_
                obtain ⟨_, k96, n97, bn98, rfl⟩ := hW (t + 9) _ (okX_t ht (j := 9) rfl)
                refine x_vi C (As := [.int (nI (g93 jj))]) (rest := []) (c_Eggs_isWhole E l a ws hW t ht ((nI (g93 jj)))) mf_X1_isWhole w_711 (t + 9) k96 rfl rfl rfl (Nat.le_of_ble_eq_true rfl) ⟨(Nat.le_of_ble_eq_true rfl), (Nat.le_of_ble_eq_true rfl)⟩ ⟨(Nat.le_of_ble_eq_true rfl), (Nat.le_of_ble_eq_true rfl)⟩ dX0_canBe_101 rfl (fun r100 w101 h99 => ?_)
                obtain ⟨hW102, zb103, x104⟩ := h99
                refine x_ws hW102 ?_
                refine x_if_eq C (tgt := 149) dX0_canBe_104 (by decide) rfl (fun c105 => ?_) (fun c105 => ?_)
                · skip
                  refine x_iconst C (v := 0) dX0_canBe_149 (by decide) rfl ?_
                  exact x_zret C hr hlk rfl dX0_canBe_150 ⟨rfl, (Or.inl rfl), (fun q => absurd rfl q)⟩
                · skip
                  have wi106 := wth_le (a := 0) (b := 47) (j := (g93 jj)) (x104 c105) (by omega) (by decide) (by decide)
                  refine x_iload_n C dX0_canBe_107 rfl 4 rfl rfl ?_
                  refine x_bipush C (v := 62) dX0_canBe_108 (by decide) rfl ?_
                  refine x_icmp_ne C (tgt := 128) dX0_canBe_110 (by decide) rfl (fun c107 => ?_) (fun c107 => ?_)
                  · skip
                    refine x_iload_n C dX0_canBe_128 rfl 4 rfl rfl ?_
                    refine x_bipush C (v := 42) dX0_canBe_129 (by decide) rfl ?_
                    refine x_icmp_ne C (tgt := 151) dX0_canBe_131 (by decide) rfl (fun c108 => ?_) (fun c108 => ?_)
                    · skip
                      refine x_iinc C (v := (nI (jj + 1))) (lv' := [(5, .int (nI (jj + 1))), (6, .int (nI (g93 jj))), (0, .ref (a 87)), (1, .int (nI k)), (2, .ref (a t)), (3, .int (f2 k)), (4, .int (f4 k))]) dX0_canBe_151 6 rfl (nI_add jj 1) (by decide) rfl rfl ?_
                      refine x_goto C (tgt := 73) dX0_canBe_154 (by decide) ?_
                      refine x_lv (lv1 := [(0, .ref (a 87)), (1, .int (nI k)), (2, .ref (a t)), (3, .int (f2 k)), (4, .int (f4 k)), (5, .int (nI (jj + 1)))]) [2, 3, 4, 5, 6, 0] rfl ?_
                      exact ih73 (jj + 1) trivial (by omega) (by omega)
                    · skip
                      refine x_aload_n C dX0_canBe_134 rfl 3 rfl rfl ?_
                      refine x_get C (ci := 8) (k := 4) t k59 rfl in_X9 (by decide) w_210 rfl dX0_canBe_135 rfl ?_
                      refine x_get C (ci := 1) (k := 5) (t + 9) k96 rfl in_X1 (by decide) w_141 rfl dX0_canBe_138 rfl ?_
                      refine x_iload C dX0_canBe_141 0 rfl rfl ?_
                      obtain ⟨_, k109, f110, rfl⟩ := hW (t + 14) _ (okX_t ht (j := 14) rfl)
                      refine x_iald C (v := (f110 (nI (g93 jj)).toNatClampNeg)) (t + 14) k109 (vp_in_nI (by omega) (by decide)) rfl dX0_canBe_143 rfl ?_
                      refine x_any (fun v111 => ?_)
                      refine x_bipush C (v := 9) dX0_canBe_144 (by decide) rfl ?_
                      refine x_icmp_lt C (tgt := 151) dX0_canBe_146 (by decide) rfl (fun c112 => ?_) (fun c112 => ?_)
                      · skip
                        refine x_iinc C (v := (nI (jj + 1))) (lv' := [(5, .int (nI (jj + 1))), (6, .int (nI (g93 jj))), (0, .ref (a 87)), (1, .int (nI k)), (2, .ref (a t)), (3, .int (f2 k)), (4, .int (f4 k))]) dX0_canBe_151 6 rfl (nI_add jj 1) (by decide) rfl rfl ?_
                        refine x_goto C (tgt := 73) dX0_canBe_154 (by decide) ?_
                        refine x_lv (lv1 := [(0, .ref (a 87)), (1, .int (nI k)), (2, .ref (a t)), (3, .int (f2 k)), (4, .int (f4 k)), (5, .int (nI (jj + 1)))]) [2, 3, 4, 5, 6, 0] rfl ?_
                        exact ih73 (jj + 1) trivial (by omega) (by omega)
                      · skip
                        refine x_iconst C (v := 0) dX0_canBe_149 (by decide) rfl ?_
                        exact x_zret C hr hlk rfl dX0_canBe_150 ⟨rfl, (Or.inl rfl), (fun q => absurd rfl q)⟩
                  · skip
                    refine x_aload_n C dX0_canBe_113 rfl 3 rfl rfl ?_
                    refine x_get C (ci := 8) (k := 4) t k59 rfl in_X9 (by decide) w_210 rfl dX0_canBe_114 rfl ?_
                    refine x_get C (ci := 1) (k := 4) (t + 9) k96 rfl in_X1 (by decide) w_136 rfl dX0_canBe_117 rfl ?_
                    refine x_iload C dX0_canBe_120 0 rfl rfl ?_
                    obtain ⟨_, k113, g114, gb115, rfl⟩ := hW (t + 13) _ (okX_t ht (j := 13) rfl)
                    refine x_ialk C (v := nI (g114 (g93 jj))) (g93 jj) (nI_clamp (by omega)) (nI_pos (by omega)) (by omega) (t + 13) k113 rfl dX0_canBe_122 rfl ?_
                    have bx116 := gb115 (g93 jj)
                    refine x_iload C dX0_canBe_123 5 rfl rfl ?_
                    refine x_icmp_eq C (tgt := 149) dX0_canBe_125 (by decide) rfl (fun c117 => ?_) (fun c117 => ?_)
                    · skip
                      refine x_iconst C (v := 0) dX0_canBe_149 (by decide) rfl ?_
                      exact x_zret C hr hlk rfl dX0_canBe_150 ⟨rfl, (Or.inl rfl), (fun q => absurd rfl q)⟩
                    · skip
                      refine x_iload_n C dX0_canBe_128 rfl 4 rfl rfl ?_
                      refine x_bipush C (v := 42) dX0_canBe_129 (by decide) rfl ?_
                      refine x_icmp_ne C (tgt := 151) dX0_canBe_131 (by decide) rfl (fun c118 => ?_) (fun c118 => ?_)
                      · skip
                        refine x_iinc C (v := (nI (jj + 1))) (lv' := [(5, .int (nI (jj + 1))), (6, .int (nI (g93 jj))), (0, .ref (a 87)), (1, .int (nI k)), (2, .ref (a t)), (3, .int (f2 k)), (4, .int (f4 k))]) dX0_canBe_151 6 rfl (nI_add jj 1) (by decide) rfl rfl ?_
                        refine x_goto C (tgt := 73) dX0_canBe_154 (by decide) ?_
                        refine x_lv (lv1 := [(0, .ref (a 87)), (1, .int (nI k)), (2, .ref (a t)), (3, .int (f2 k)), (4, .int (f4 k)), (5, .int (nI (jj + 1)))]) [2, 3, 4, 5, 6, 0] rfl ?_
                        exact ih73 (jj + 1) trivial (by omega) (by omega)
                      · skip
                        refine x_aload_n C dX0_canBe_134 rfl 3 rfl rfl ?_
                        refine x_get C (ci := 8) (k := 4) t k59 rfl in_X9 (by decide) w_210 rfl dX0_canBe_135 rfl ?_
                        refine x_get C (ci := 1) (k := 5) (t + 9) k96 rfl in_X1 (by decide) w_141 rfl dX0_canBe_138 rfl ?_
                        refine x_iload C dX0_canBe_141 0 rfl rfl ?_
                        obtain ⟨_, k119, f120, rfl⟩ := hW (t + 14) _ (okX_t ht (j := 14) rfl)
                        refine x_iald C (v := (f120 (nI (g93 jj)).toNatClampNeg)) (t + 14) k119 (vp_in_nI (by omega) (by decide)) rfl dX0_canBe_143 rfl ?_
                        refine x_any (fun v121 => ?_)
                        refine x_bipush C (v := 9) dX0_canBe_144 (by decide) rfl ?_
                        refine x_icmp_lt C (tgt := 151) dX0_canBe_146 (by decide) rfl (fun c122 => ?_) (fun c122 => ?_)
                        · skip
                          refine x_iinc C (v := (nI (jj + 1))) (lv' := [(5, .int (nI (jj + 1))), (6, .int (nI (g93 jj))), (0, .ref (a 87)), (1, .int (nI k)), (2, .ref (a t)), (3, .int (f2 k)), (4, .int (f4 k))]) dX0_canBe_151 6 rfl (nI_add jj 1) (by decide) rfl rfl ?_
                          refine x_goto C (tgt := 73) dX0_canBe_154 (by decide) ?_
                          refine x_lv (lv1 := [(0, .ref (a 87)), (1, .int (nI k)), (2, .ref (a t)), (3, .int (f2 k)), (4, .int (f4 k)), (5, .int (nI (jj + 1)))]) [2, 3, 4, 5, 6, 0] rfl ?_
                          exact ih73 (jj + 1) trivial (by omega) (by omega)
                        · skip
                          refine x_iconst C (v := 0) dX0_canBe_149 (by decide) rfl ?_
                          exact x_zret C hr hlk rfl dX0_canBe_150 ⟨rfl, (Or.inl rfl), (fun q => absurd rfl q)⟩
          refine x_lv (lv1 := [(0, .ref (a 87)), (1, .int (nI k)), (2, .ref (a t)), (3, .int (f2 k)), (4, .int (f4 k)), (5, .int (nI (g85 k)))]) [3, 4, 5, 2, 1, 0] rfl ?_
          exact loop73 _ (g85 k) trivial (Nat.lt_succ_self _) (by omega)
        · skip
          refine x_iconst C (v := 0) dX0_canBe_63 (by decide) rfl ?_
          exact x_zret C hr hlk rfl dX0_canBe_64 ⟨rfl, (Or.inl rfl), (fun q => absurd rfl q)⟩
  · skip
    refine x_aload_n C dX0_canBe_21 rfl 4 rfl rfl ?_
    obtain ⟨_, k123, n124, v126, v127, v128, v129, v130, bn125, rfl⟩ := hW (t + 0) _ (okX_t ht (j := 0) rfl)
    refine x_get C (ci := 8) (k := 3) t k123 rfl in_X9 (by decide) w_205 rfl dX0_canBe_22 rfl ?_
    refine x_iload C dX0_canBe_25 0 rfl rfl ?_
    obtain ⟨_, k131, v132, rfl⟩ := hW (t + 4) _ (okX_t ht (j := 4) rfl)
    refine x_vi C (As := [.int (f4 k)]) (rest := []) (c_People_isTold E l a ws hW t ht ((f4 k))) mf_X5_isTold w_700 (t + 4) k131 rfl rfl rfl (Nat.le_of_ble_eq_true rfl) ⟨(Nat.le_of_ble_eq_true rfl), (Nat.le_of_ble_eq_true rfl)⟩ ⟨(Nat.le_of_ble_eq_true rfl), (Nat.le_of_ble_eq_true rfl)⟩ dX0_canBe_27 rfl (fun r134 w135 h133 => ?_)
    obtain ⟨hW136, zb137, x138⟩ := h133
    refine x_ws hW136 ?_
    refine x_if_eq C (tgt := 63) dX0_canBe_30 (by decide) rfl (fun c139 => ?_) (fun c139 => ?_)
    · skip
      refine x_iconst C (v := 0) dX0_canBe_63 (by decide) rfl ?_
      exact x_zret C hr hlk rfl dX0_canBe_64 ⟨rfl, (Or.inl rfl), (fun q => absurd rfl q)⟩
    · skip
      have wt140 := x138 c139
      refine x_iload_n C dX0_canBe_33 rfl 1 rfl rfl ?_
      refine x_bipush C (v := 33) dX0_canBe_34 (by decide) rfl ?_
      refine x_icmp_ne C (tgt := 65) dX0_canBe_36 (by decide) rfl (fun c141 => ?_) (fun c141 => ?_)
      · skip
        refine x_aload_n C dX0_canBe_65 rfl 2 rfl rfl ?_
        refine x_get C (ci := 0) (k := 3) 87 k5 rfl in_X0 (by decide) w_298 rfl dX0_canBe_66 rfl ?_
        refine x_iload_n C dX0_canBe_69 rfl 3 rfl rfl ?_
        obtain ⟨_, k142, g143, gb144, rfl⟩ := hW 90 _ rfl
        refine x_ialk C (v := nI (g143 k)) k (nI_clamp (by omega)) (nI_pos (by omega)) (by omega) 90 k142 rfl dX0_canBe_70 rfl ?_
        have bx145 := gb144 k
        refine x_istore C (lv' := [(5, .int (nI (g143 k))), (4, .int (f4 k)), (3, .int (f2 k)), (0, .ref (a 87)), (1, .int (nI k)), (2, .ref (a t))]) dX0_canBe_71 (by decide) rfl rfl ?_
        have loop73 : ∀ (fu73 : Nat) (jj : Nat), True → 140 - jj < fu73 → jj ≤ 140 → X E p l e (xRm 3 0 0) s m ([.ref (a 87), .int (nI k), .ref (a t)] : List Value).toArray below meth c A 7 0 0 (MQ below (va_Qi (fun r w => w = ws ∧ zb r ∧ (¬ r = 0 → tgW ws k)) (xB E A) A) ([.ref (a 87), .int (nI k), .ref (a t)] : List Value).toArray s 0 0 A) ws 73 [(0, .ref (a 87)), (1, .int (nI k)), (2, .ref (a t)), (3, .int (f2 k)), (4, .int (f4 k)), (5, .int (nI jj))] [] := by
          intro fu73
          induction fu73 with
          | zero => intro jj _ q; omega
          | succ fu73 ih73 =>
            intro jj _ me73 iv73_0
            refine x_iload C dX0_canBe_73 5 rfl rfl ?_
            refine x_aload_n C dX0_canBe_75 rfl 0 rfl rfl ?_
            refine x_get C (ci := 0) (k := 3) 87 k5 rfl in_X0 (by decide) w_298 rfl dX0_canBe_76 rfl ?_
            refine x_iload_n C dX0_canBe_79 rfl 1 rfl rfl ?_
            refine x_iconst C (v := 1) dX0_canBe_80 (by decide) rfl ?_
            refine x_iadd C (v := (nI (k + 1))) dX0_canBe_81 (nI_add k 1) rfl ?_
            refine x_ialk C (v := nI (g143 (k + 1))) (k + 1) (nI_clamp (by omega)) (nI_pos (by omega)) (by omega) 90 k142 rfl dX0_canBe_82 rfl ?_
            have bx146 := gb144 (k + 1)
            refine x_icmp_ge C (tgt := 157) dX0_canBe_83 (by decide) rfl (fun c147 => ?_) (fun c147 => ?_)
            · skip
              have nf148 := nI_le' (a := (g143 (k + 1))) (b := jj) c147 (by omega) (by omega)
              refine x_iconst C (v := 1) dX0_canBe_157 (by decide) rfl ?_
              exact x_zret C hr hlk rfl dX0_canBe_158 ⟨rfl, (Or.inr rfl), (fun _ => (tgW_iff k1 k3).mpr (fun q => by first | assumption | (rcases q with q | q <;> first | exact absurd q (by assumption) | assumption)))⟩
            · skip
              have nf149 := nI_nle' (a := (g143 (k + 1))) (b := jj) c147 (by omega) (by omega)
              refine x_aload_n C dX0_canBe_86 rfl 0 rfl rfl ?_
              refine x_get C (ci := 0) (k := 4) 87 k5 rfl in_X0 (by decide) w_299 rfl dX0_canBe_87 rfl ?_
              refine x_iload C dX0_canBe_90 5 rfl rfl ?_
              obtain ⟨_, k150, g151, gb152, rfl⟩ := hW 91 _ rfl
              refine x_ialk C (v := nI (g151 jj)) jj (nI_clamp (by omega)) (nI_pos (by omega)) (by omega) 91 k150 rfl dX0_canBe_92 rfl ?_
              have bx153 := gb152 jj
              refine x_istore C (lv' := [(6, .int (nI (g151 jj))), (0, .ref (a 87)), (1, .int (nI k)), (2, .ref (a t)), (3, .int (f2 k)), (4, .int (f4 k)), (5, .int (nI jj))]) dX0_canBe_93 (by decide) rfl rfl ?_
              refine x_aload_n C dX0_canBe_95 rfl 3 rfl rfl ?_
              refine x_get C (ci := 8) (k := 4) t k123 rfl in_X9 (by decide) w_210 rfl dX0_canBe_96 rfl ?_
              refine x_iload C dX0_canBe_99 0 rfl rfl ?_
              obtain ⟨_, k154, n155, bn156, rfl⟩ := hW (t + 9) _ (okX_t ht (j := 9) rfl)
              refine x_vi C (As := [.int (nI (g151 jj))]) (rest := []) (c_Eggs_isWhole E l a ws hW t ht ((nI (g151 jj)))) mf_X1_isWhole w_711 (t + 9) k154 rfl rfl rfl (Nat.le_of_ble_eq_true rfl) ⟨(Nat.le_of_ble_eq_true rfl), (Nat.le_of_ble_eq_true rfl)⟩ ⟨(Nat.le_of_ble_eq_true rfl), (Nat.le_of_ble_eq_true rfl)⟩ dX0_canBe_101 rfl (fun r158 w159 h157 => ?_)
              obtain ⟨hW160, zb161, x162⟩ := h157
              refine x_ws hW160 ?_
              refine x_if_eq C (tgt := 149) dX0_canBe_104 (by decide) rfl (fun c163 => ?_) (fun c163 => ?_)
              · skip
                refine x_iconst C (v := 0) dX0_canBe_149 (by decide) rfl ?_
                exact x_zret C hr hlk rfl dX0_canBe_150 ⟨rfl, (Or.inl rfl), (fun q => absurd rfl q)⟩
              · skip
                have wi164 := wth_le (a := 0) (b := 47) (j := (g151 jj)) (x162 c163) (by omega) (by decide) (by decide)
                refine x_iload_n C dX0_canBe_107 rfl 4 rfl rfl ?_
                refine x_bipush C (v := 62) dX0_canBe_108 (by decide) rfl ?_
                refine x_icmp_ne C (tgt := 128) dX0_canBe_110 (by decide) rfl (fun c165 => ?_) (fun c165 => ?_)
                · skip
                  refine x_iload_n C dX0_canBe_128 rfl 4 rfl rfl ?_
                  refine x_bipush C (v := 42) dX0_canBe_129 (by decide) rfl ?_
                  refine x_icmp_ne C (tgt := 151) dX0_canBe_131 (by decide) rfl (fun c166 => ?_) (fun c166 => ?_)
                  · skip
                    refine x_iinc C (v := (nI (jj + 1))) (lv' := [(5, .int (nI (jj + 1))), (6, .int (nI (g151 jj))), (0, .ref (a 87)), (1, .int (nI k)), (2, .ref (a t)), (3, .int (f2 k)), (4, .int (f4 k))]) dX0_canBe_151 6 rfl (nI_add jj 1) (by decide) rfl rfl ?_
                    refine x_goto C (tgt := 73) dX0_canBe_154 (by decide) ?_
                    refine x_lv (lv1 := [(0, .ref (a 87)), (1, .int (nI k)), (2, .ref (a t)), (3, .int (f2 k)), (4, .int (f4 k)), (5, .int (nI (jj + 1)))]) [2, 3, 4, 5, 6, 0] rfl ?_
                    exact ih73 (jj + 1) trivial (by omega) (by omega)
                  · skip
                    refine x_aload_n C dX0_canBe_134 rfl 3 rfl rfl ?_
                    refine x_get C (ci := 8) (k := 4) t k123 rfl in_X9 (by decide) w_210 rfl dX0_canBe_135 rfl ?_
                    refine x_get C (ci := 1) (k := 5) (t + 9) k154 rfl in_X1 (by decide) w_141 rfl dX0_canBe_138 rfl ?_
                    refine x_iload C dX0_canBe_141 0 rfl rfl ?_
                    obtain ⟨_, k167, f168, rfl⟩ := hW (t + 14) _ (okX_t ht (j := 14) rfl)
                    refine x_iald C (v := (f168 (nI (g151 jj)).toNatClampNeg)) (t + 14) k167 (vp_in_nI (by omega) (by decide)) rfl dX0_canBe_143 rfl ?_
                    refine x_any (fun v169 => ?_)
                    refine x_bipush C (v := 9) dX0_canBe_144 (by decide) rfl ?_
                    refine x_icmp_lt C (tgt := 151) dX0_canBe_146 (by decide) rfl (fun c170 => ?_) (fun c170 => ?_)
                    · skip
                      refine x_iinc C (v := (nI (jj + 1))) (lv' := [(5, .int (nI (jj + 1))), (6, .int (nI (g151 jj))), (0, .ref (a 87)), (1, .int (nI k)), (2, .ref (a t)), (3, .int (f2 k)), (4, .int (f4 k))]) dX0_canBe_151 6 rfl (nI_add jj 1) (by decide) rfl rfl ?_
                      refine x_goto C (tgt := 73) dX0_canBe_154 (by decide) ?_
                      refine x_lv (lv1 := [(0, .ref (a 87)), (1, .int (nI k)), (2, .ref (a t)), (3, .int (f2 k)), (4, .int (f4 k)), (5, .int (nI (jj + 1)))]) [2, 3, 4, 5, 6, 0] rfl ?_
                      exact ih73 (jj + 1) trivial (by omega) (by omega)
                    · skip
                      refine x_iconst C (v := 0) dX0_canBe_149 (by decide) rfl ?_
                      exact x_zret C hr hlk rfl dX0_canBe_150 ⟨rfl, (Or.inl rfl), (fun q => absurd rfl q)⟩
                · skip
                  refine x_aload_n C dX0_canBe_113 rfl 3 rfl rfl ?_
                  refine x_get C (ci := 8) (k := 4) t k123 rfl in_X9 (by decide) w_210 rfl dX0_canBe_114 rfl ?_
                  refine x_get C (ci := 1) (k := 4) (t + 9) k154 rfl in_X1 (by decide) w_136 rfl dX0_canBe_117 rfl ?_
                  refine x_iload C dX0_canBe_120 0 rfl rfl ?_
                  obtain ⟨_, k171, g172, gb173, rfl⟩ := hW (t + 13) _ (okX_t ht (j := 13) rfl)
                  refine x_ialk C (v := nI (g172 (g151 jj))) (g151 jj) (nI_clamp (by omega)) (nI_pos (by omega)) (by omega) (t + 13) k171 rfl dX0_canBe_122 rfl ?_
                  have bx174 := gb173 (g151 jj)
                  refine x_iload C dX0_canBe_123 5 rfl rfl ?_
                  refine x_icmp_eq C (tgt := 149) dX0_canBe_125 (by decide) rfl (fun c175 => ?_) (fun c175 => ?_)
                  · skip
                    refine x_iconst C (v := 0) dX0_canBe_149 (by decide) rfl ?_
                    exact x_zret C hr hlk rfl dX0_canBe_150 ⟨rfl, (Or.inl rfl), (fun q => absurd rfl q)⟩
                  · skip
                    refine x_iload_n C dX0_canBe_128 rfl 4 rfl rfl ?_
                    refine x_bipush C (v := 42) dX0_canBe_129 (by decide) rfl ?_
                    refine x_icmp_ne C (tgt := 151) dX0_canBe_131 (by decide) rfl (fun c176 => ?_) (fun c176 => ?_)
                    · skip
                      refine x_iinc C (v := (nI (jj + 1))) (lv' := [(5, .int (nI (jj + 1))), (6, .int (nI (g151 jj))), (0, .ref (a 87)), (1, .int (nI k)), (2, .ref (a t)), (3, .int (f2 k)), (4, .int (f4 k))]) dX0_canBe_151 6 rfl (nI_add jj 1) (by decide) rfl rfl ?_
                      refine x_goto C (tgt := 73) dX0_canBe_154 (by decide) ?_
                      refine x_lv (lv1 := [(0, .ref (a 87)), (1, .int (nI k)), (2, .ref (a t)), (3, .int (f2 k)), (4, .int (f4 k)), (5, .int (nI (jj + 1)))]) [2, 3, 4, 5, 6, 0] rfl ?_
                      exact ih73 (jj + 1) trivial (by omega) (by omega)
                    · skip
                      refine x_aload_n C dX0_canBe_134 rfl 3 rfl rfl ?_
                      refine x_get C (ci := 8) (k := 4) t k123 rfl in_X9 (by decide) w_210 rfl dX0_canBe_135 rfl ?_
                      refine x_get C (ci := 1) (k := 5) (t + 9) k154 rfl in_X1 (by decide) w_141 rfl dX0_canBe_138 rfl ?_
                      refine x_iload C dX0_canBe_141 0 rfl rfl ?_
                      obtain ⟨_, k177, f178, rfl⟩ := hW (t + 14) _ (okX_t ht (j := 14) rfl)
                      refine x_iald C (v := (f178 (nI (g151 jj)).toNatClampNeg)) (t + 14) k177 (vp_in_nI (by omega) (by decide)) rfl dX0_canBe_143 rfl ?_
                      refine x_any (fun v179 => ?_)
                      refine x_bipush C (v := 9) dX0_canBe_144 (by decide) rfl ?_
                      refine x_icmp_lt C (tgt := 151) dX0_canBe_146 (by decide) rfl (fun c180 => ?_) (fun c180 => ?_)
                      · skip
                        refine x_iinc C (v := (nI (jj + 1))) (lv' := [(5, .int (nI (jj + 1))), (6, .int (nI (g151 jj))), (0, .ref (a 87)), (1, .int (nI k)), (2, .ref (a t)), (3, .int (f2 k)), (4, .int (f4 k))]) dX0_canBe_151 6 rfl (nI_add jj 1) (by decide) rfl rfl ?_
                        refine x_goto C (tgt := 73) dX0_canBe_154 (by decide) ?_
                        refine x_lv (lv1 := [(0, .ref (a 87)), (1, .int (nI k)), (2, .ref (a t)), (3, .int (f2 k)), (4, .int (f4 k)), (5, .int (nI (jj + 1)))]) [2, 3, 4, 5, 6, 0] rfl ?_
                        exact ih73 (jj + 1) trivial (by omega) (by omega)
                      · skip
                        refine x_iconst C (v := 0) dX0_canBe_149 (by decide) rfl ?_
                        exact x_zret C hr hlk rfl dX0_canBe_150 ⟨rfl, (Or.inl rfl), (fun q => absurd rfl q)⟩
        refine x_lv (lv1 := [(0, .ref (a 87)), (1, .int (nI k)), (2, .ref (a t)), (3, .int (f2 k)), (4, .int (f4 k)), (5, .int (nI (g143 k)))]) [3, 4, 5, 2, 1, 0] rfl ?_
        exact loop73 _ (g143 k) trivial (Nat.lt_succ_self _) (by omega)
      · skip
        refine x_aload_n C dX0_canBe_39 rfl 4 rfl rfl ?_
        refine x_get C (ci := 8) (k := 5) t k123 rfl in_X9 (by decide) w_214 rfl dX0_canBe_40 rfl ?_
        refine x_iload C dX0_canBe_43 0 rfl rfl ?_
        obtain ⟨_, k181, v182, rfl⟩ := hW (t + 16) _ (okX_t ht (j := 16) rfl)
        refine x_vi C (As := [.int (f4 k)]) (rest := []) (c_Works_isTold E l a ws hW t ht ((f4 k))) mf_X10_isTold w_701 (t + 16) k181 rfl rfl rfl (Nat.le_of_ble_eq_true rfl) ⟨(Nat.le_of_ble_eq_true rfl), (Nat.le_of_ble_eq_true rfl)⟩ ⟨(Nat.le_of_ble_eq_true rfl), (Nat.le_of_ble_eq_true rfl)⟩ dX0_canBe_45 rfl (fun r184 w185 h183 => ?_)
        obtain ⟨hW186, zb187, x188⟩ := h183
        refine x_ws hW186 ?_
        refine x_if_eq C (tgt := 63) dX0_canBe_48 (by decide) rfl (fun c189 => ?_) (fun c189 => ?_)
        · skip
          refine x_iconst C (v := 0) dX0_canBe_63 (by decide) rfl ?_
          exact x_zret C hr hlk rfl dX0_canBe_64 ⟨rfl, (Or.inl rfl), (fun q => absurd rfl q)⟩
        · skip
          have wt190 := x188 c189
          refine x_aload_n C dX0_canBe_51 rfl 4 rfl rfl ?_
          refine x_get C (ci := 8) (k := 5) t k123 rfl in_X9 (by decide) w_214 rfl dX0_canBe_52 rfl ?_
          refine x_iload C dX0_canBe_55 0 rfl rfl ?_
          refine x_vi C (As := [.int (f4 k)]) (rest := []) (c_Works_isDone E l a ws hW t ht ((f4 k))) mf_X10_isDone w_706 (t + 16) k181 rfl rfl rfl (Nat.le_of_ble_eq_true rfl) ⟨(Nat.le_of_ble_eq_true rfl), (Nat.le_of_ble_eq_true rfl)⟩ ⟨(Nat.le_of_ble_eq_true rfl), (Nat.le_of_ble_eq_true rfl)⟩ dX0_canBe_57 rfl (fun r192 w193 h191 => ?_)
          obtain ⟨hW194, zb195, x196⟩ := h191
          refine x_ws hW194 ?_
          refine x_if_eq C (tgt := 65) dX0_canBe_60 (by decide) rfl (fun c197 => ?_) (fun c197 => ?_)
          · skip
            refine x_aload_n C dX0_canBe_65 rfl 2 rfl rfl ?_
            refine x_get C (ci := 0) (k := 3) 87 k5 rfl in_X0 (by decide) w_298 rfl dX0_canBe_66 rfl ?_
            refine x_iload_n C dX0_canBe_69 rfl 3 rfl rfl ?_
            obtain ⟨_, k198, g199, gb200, rfl⟩ := hW 90 _ rfl
            refine x_ialk C (v := nI (g199 k)) k (nI_clamp (by omega)) (nI_pos (by omega)) (by omega) 90 k198 rfl dX0_canBe_70 rfl ?_
            have bx201 := gb200 k
            refine x_istore C (lv' := [(5, .int (nI (g199 k))), (4, .int (f4 k)), (3, .int (f2 k)), (0, .ref (a 87)), (1, .int (nI k)), (2, .ref (a t))]) dX0_canBe_71 (by decide) rfl rfl ?_
            have loop73 : ∀ (fu73 : Nat) (jj : Nat), True → 140 - jj < fu73 → jj ≤ 140 → X E p l e (xRm 3 0 0) s m ([.ref (a 87), .int (nI k), .ref (a t)] : List Value).toArray below meth c A 7 0 0 (MQ below (va_Qi (fun r w => w = ws ∧ zb r ∧ (¬ r = 0 → tgW ws k)) (xB E A) A) ([.ref (a 87), .int (nI k), .ref (a t)] : List Value).toArray s 0 0 A) ws 73 [(0, .ref (a 87)), (1, .int (nI k)), (2, .ref (a t)), (3, .int (f2 k)), (4, .int (f4 k)), (5, .int (nI jj))] [] := by
              intro fu73
              induction fu73 with
              | zero => intro jj _ q; omega
              | succ fu73 ih73 =>
                intro jj _ me73 iv73_0
                refine x_iload C dX0_canBe_73 5 rfl rfl ?_
                refine x_aload_n C dX0_canBe_75 rfl 0 rfl rfl ?_
                refine x_get C (ci := 0) (k := 3) 87 k5 rfl in_X0 (by decide) w_298 rfl dX0_canBe_76 rfl ?_
                refine x_iload_n C dX0_canBe_79 rfl 1 rfl rfl ?_
                refine x_iconst C (v := 1) dX0_canBe_80 (by decide) rfl ?_
                refine x_iadd C (v := (nI (k + 1))) dX0_canBe_81 (nI_add k 1) rfl ?_
                refine x_ialk C (v := nI (g199 (k + 1))) (k + 1) (nI_clamp (by omega)) (nI_pos (by omega)) (by omega) 90 k198 rfl dX0_canBe_82 rfl ?_
                have bx202 := gb200 (k + 1)
                refine x_icmp_ge C (tgt := 157) dX0_canBe_83 (by decide) rfl (fun c203 => ?_) (fun c203 => ?_)
                · skip
                  have nf204 := nI_le' (a := (g199 (k + 1))) (b := jj) c203 (by omega) (by omega)
                  refine x_iconst C (v := 1) dX0_canBe_157 (by decide) rfl ?_
                  exact x_zret C hr hlk rfl dX0_canBe_158 ⟨rfl, (Or.inr rfl), (fun _ => (tgW_iff k1 k3).mpr (fun q => by first | assumption | (rcases q with q | q <;> first | exact absurd q (by assumption) | assumption)))⟩
                · skip
                  have nf205 := nI_nle' (a := (g199 (k + 1))) (b := jj) c203 (by omega) (by omega)
                  refine x_aload_n C dX0_canBe_86 rfl 0 rfl rfl ?_
                  refine x_get C (ci := 0) (k := 4) 87 k5 rfl in_X0 (by decide) w_299 rfl dX0_canBe_87 rfl ?_
                  refine x_iload C dX0_canBe_90 5 rfl rfl ?_
                  obtain ⟨_, k206, g207, gb208, rfl⟩ := hW 91 _ rfl
                  refine x_ialk C (v := nI (g207 jj)) jj (nI_clamp (by omega)) (nI_pos (by omega)) (by omega) 91 k206 rfl dX0_canBe_92 rfl ?_
                  have bx209 := gb208 jj
                  refine x_istore C (lv' := [(6, .int (nI (g207 jj))), (0, .ref (a 87)), (1, .int (nI k)), (2, .ref (a t)), (3, .int (f2 k)), (4, .int (f4 k)), (5, .int (nI jj))]) dX0_canBe_93 (by decide) rfl rfl ?_
                  refine x_aload_n C dX0_canBe_95 rfl 3 rfl rfl ?_
                  refine x_get C (ci := 8) (k := 4) t k123 rfl in_X9 (by decide) w_210 rfl dX0_canBe_96 rfl ?_
                  refine x_iload C dX0_canBe_99 0 rfl rfl ?_
                  obtain ⟨_, k210, n211, bn212, rfl⟩ := hW (t + 9) _ (okX_t ht (j := 9) rfl)
                  refine x_vi C (As := [.int (nI (g207 jj))]) (rest := []) (c_Eggs_isWhole E l a ws hW t ht ((nI (g207 jj)))) mf_X1_isWhole w_711 (t + 9) k210 rfl rfl rfl (Nat.le_of_ble_eq_true rfl) ⟨(Nat.le_of_ble_eq_true rfl), (Nat.le_of_ble_eq_true rfl)⟩ ⟨(Nat.le_of_ble_eq_true rfl), (Nat.le_of_ble_eq_true rfl)⟩ dX0_canBe_101 rfl (fun r214 w215 h213 => ?_)
                  obtain ⟨hW216, zb217, x218⟩ := h213
                  refine x_ws hW216 ?_
                  refine x_if_eq C (tgt := 149) dX0_canBe_104 (by decide) rfl (fun c219 => ?_) (fun c219 => ?_)
                  · skip
                    refine x_iconst C (v := 0) dX0_canBe_149 (by decide) rfl ?_
                    exact x_zret C hr hlk rfl dX0_canBe_150 ⟨rfl, (Or.inl rfl), (fun q => absurd rfl q)⟩
                  · skip
                    have wi220 := wth_le (a := 0) (b := 47) (j := (g207 jj)) (x218 c219) (by omega) (by decide) (by decide)
                    refine x_iload_n C dX0_canBe_107 rfl 4 rfl rfl ?_
                    refine x_bipush C (v := 62) dX0_canBe_108 (by decide) rfl ?_
                    refine x_icmp_ne C (tgt := 128) dX0_canBe_110 (by decide) rfl (fun c221 => ?_) (fun c221 => ?_)
                    · skip
                      refine x_iload_n C dX0_canBe_128 rfl 4 rfl rfl ?_
                      refine x_bipush C (v := 42) dX0_canBe_129 (by decide) rfl ?_
                      refine x_icmp_ne C (tgt := 151) dX0_canBe_131 (by decide) rfl (fun c222 => ?_) (fun c222 => ?_)
                      · skip
                        refine x_iinc C (v := (nI (jj + 1))) (lv' := [(5, .int (nI (jj + 1))), (6, .int (nI (g207 jj))), (0, .ref (a 87)), (1, .int (nI k)), (2, .ref (a t)), (3, .int (f2 k)), (4, .int (f4 k))]) dX0_canBe_151 6 rfl (nI_add jj 1) (by decide) rfl rfl ?_
                        refine x_goto C (tgt := 73) dX0_canBe_154 (by decide) ?_
                        refine x_lv (lv1 := [(0, .ref (a 87)), (1, .int (nI k)), (2, .ref (a t)), (3, .int (f2 k)), (4, .int (f4 k)), (5, .int (nI (jj + 1)))]) [2, 3, 4, 5, 6, 0] rfl ?_
                        exact ih73 (jj + 1) trivial (by omega) (by omega)
                      · skip
                        refine x_aload_n C dX0_canBe_134 rfl 3 rfl rfl ?_
                        refine x_get C (ci := 8) (k := 4) t k123 rfl in_X9 (by decide) w_210 rfl dX0_canBe_135 rfl ?_
                        refine x_get C (ci := 1) (k := 5) (t + 9) k210 rfl in_X1 (by decide) w_141 rfl dX0_canBe_138 rfl ?_
                        refine x_iload C dX0_canBe_141 0 rfl rfl ?_
                        obtain ⟨_, k223, f224, rfl⟩ := hW (t + 14) _ (okX_t ht (j := 14) rfl)
                        refine x_iald C (v := (f224 (nI (g207 jj)).toNatClampNeg)) (t + 14) k223 (vp_in_nI (by omega) (by decide)) rfl dX0_canBe_143 rfl ?_
                        refine x_any (fun v225 => ?_)
                        refine x_bipush C (v := 9) dX0_canBe_144 (by decide) rfl ?_
                        refine x_icmp_lt C (tgt := 151) dX0_canBe_146 (by decide) rfl (fun c226 => ?_) (fun c226 => ?_)
                        · skip
                          refine x_iinc C (v := (nI (jj + 1))) (lv' := [(5, .int (nI (jj + 1))), (6, .int (nI (g207 jj))), (0, .ref (a 87)), (1, .int (nI k)), (2, .ref (a t)), (3, .int (f2 k)), (4, .int (f4 k))]) dX0_canBe_151 6 rfl (nI_add jj 1) (by decide) rfl rfl ?_
                          refine x_goto C (tgt := 73) dX0_canBe_154 (by decide) ?_
                          refine x_lv (lv1 := [(0, .ref (a 87)), (1, .int (nI k)), (2, .ref (a t)), (3, .int (f2 k)), (4, .int (f4 k)), (5, .int (nI (jj + 1)))]) [2, 3, 4, 5, 6, 0] rfl ?_
                          exact ih73 (jj + 1) trivial (by omega) (by omega)
                        · skip
                          refine x_iconst C (v := 0) dX0_canBe_149 (by decide) rfl ?_
                          exact x_zret C hr hlk rfl dX0_canBe_150 ⟨rfl, (Or.inl rfl), (fun q => absurd rfl q)⟩
                    · skip
                      refine x_aload_n C dX0_canBe_113 rfl 3 rfl rfl ?_
                      refine x_get C (ci := 8) (k := 4) t k123 rfl in_X9 (by decide) w_210 rfl dX0_canBe_114 rfl ?_
                      refine x_get C (ci := 1) (k := 4) (t + 9) k210 rfl in_X1 (by decide) w_136 rfl dX0_canBe_117 rfl ?_
                      refine x_iload C dX0_canBe_120 0 rfl rfl ?_
                      obtain ⟨_, k227, g228, gb229, rfl⟩ := hW (t + 13) _ (okX_t ht (j := 13) rfl)
                      refine x_ialk C (v := nI (g228 (g207 jj))) (g207 jj) (nI_clamp (by omega)) (nI_pos (by omega)) (by omega) (t + 13) k227 rfl dX0_canBe_122 rfl ?_
                      have bx230 := gb229 (g207 jj)
                      refine x_iload C dX0_canBe_123 5 rfl rfl ?_
                      refine x_icmp_eq C (tgt := 149) dX0_canBe_125 (by decide) rfl (fun c231 => ?_) (fun c231 => ?_)
                      · skip
                        refine x_iconst C (v := 0) dX0_canBe_149 (by decide) rfl ?_
                        exact x_zret C hr hlk rfl dX0_canBe_150 ⟨rfl, (Or.inl rfl), (fun q => absurd rfl q)⟩
                      · skip
                        refine x_iload_n C dX0_canBe_128 rfl 4 rfl rfl ?_
                        refine x_bipush C (v := 42) dX0_canBe_129 (by decide) rfl ?_
                        refine x_icmp_ne C (tgt := 151) dX0_canBe_131 (by decide) rfl (fun c232 => ?_) (fun c232 => ?_)
                        · skip
                          refine x_iinc C (v := (nI (jj + 1))) (lv' := [(5, .int (nI (jj + 1))), (6, .int (nI (g207 jj))), (0, .ref (a 87)), (1, .int (nI k)), (2, .ref (a t)), (3, .int (f2 k)), (4, .int (f4 k))]) dX0_canBe_151 6 rfl (nI_add jj 1) (by decide) rfl rfl ?_
                          refine x_goto C (tgt := 73) dX0_canBe_154 (by decide) ?_
                          refine x_lv (lv1 := [(0, .ref (a 87)), (1, .int (nI k)), (2, .ref (a t)), (3, .int (f2 k)), (4, .int (f4 k)), (5, .int (nI (jj + 1)))]) [2, 3, 4, 5, 6, 0] rfl ?_
                          exact ih73 (jj + 1) trivial (by omega) (by omega)
                        · skip
                          refine x_aload_n C dX0_canBe_134 rfl 3 rfl rfl ?_
                          refine x_get C (ci := 8) (k := 4) t k123 rfl in_X9 (by decide) w_210 rfl dX0_canBe_135 rfl ?_
                          refine x_get C (ci := 1) (k := 5) (t + 9) k210 rfl in_X1 (by decide) w_141 rfl dX0_canBe_138 rfl ?_
                          refine x_iload C dX0_canBe_141 0 rfl rfl ?_
                          obtain ⟨_, k233, f234, rfl⟩ := hW (t + 14) _ (okX_t ht (j := 14) rfl)
                          refine x_iald C (v := (f234 (nI (g207 jj)).toNatClampNeg)) (t + 14) k233 (vp_in_nI (by omega) (by decide)) rfl dX0_canBe_143 rfl ?_
                          refine x_any (fun v235 => ?_)
                          refine x_bipush C (v := 9) dX0_canBe_144 (by decide) rfl ?_
                          refine x_icmp_lt C (tgt := 151) dX0_canBe_146 (by decide) rfl (fun c236 => ?_) (fun c236 => ?_)
                          · skip
                            refine x_iinc C (v := (nI (jj + 1))) (lv' := [(5, .int (nI (jj + 1))), (6, .int (nI (g207 jj))), (0, .ref (a 87)), (1, .int (nI k)), (2, .ref (a t)), (3, .int (f2 k)), (4, .int (f4 k))]) dX0_canBe_151 6 rfl (nI_add jj 1) (by decide) rfl rfl ?_
                            refine x_goto C (tgt := 73) dX0_canBe_154 (by decide) ?_
                            refine x_lv (lv1 := [(0, .ref (a 87)), (1, .int (nI k)), (2, .ref (a t)), (3, .int (f2 k)), (4, .int (f4 k)), (5, .int (nI (jj + 1)))]) [2, 3, 4, 5, 6, 0] rfl ?_
                            exact ih73 (jj + 1) trivial (by omega) (by omega)
                          · skip
                            refine x_iconst C (v := 0) dX0_canBe_149 (by decide) rfl ?_
                            exact x_zret C hr hlk rfl dX0_canBe_150 ⟨rfl, (Or.inl rfl), (fun q => absurd rfl q)⟩
            refine x_lv (lv1 := [(0, .ref (a 87)), (1, .int (nI k)), (2, .ref (a t)), (3, .int (f2 k)), (4, .int (f4 k)), (5, .int (nI (g199 k)))]) [3, 4, 5, 2, 1, 0] rfl ?_
            exact loop73 _ (g199 k) trivial (Nat.lt_succ_self _) (by omega)
          · skip
            refine x_iconst C (v := 0) dX0_canBe_63 (by decide) rfl ?_
            exact x_zret C hr hlk rfl dX0_canBe_64 ⟨rfl, (Or.inl rfl), (fun q => absurd rfl q)⟩
theorem dX0_carryOut_0 : decode cX0_carryOut 0 = .ok (.aload_n 0, 1) := by decide +kernel
theorem dX0_carryOut_1 : decode cX0_carryOut 1 = .ok (.getfield 22, 3) := by decide +kernel
theorem dX0_carryOut_4 : decode cX0_carryOut 4 = .ok (.iload_n 1, 1) := by decide +kernel
theorem dX0_carryOut_5 : decode cX0_carryOut 5 = .ok (.iaload, 1) := by decide +kernel
theorem dX0_carryOut_6 : decode cX0_carryOut 6 = .ok (.istore 4, 2) := by decide +kernel
theorem dX0_carryOut_8 : decode cX0_carryOut 8 = .ok (.iload 4, 2) := by decide +kernel
theorem dX0_carryOut_10 : decode cX0_carryOut 10 = .ok (.aload_n 0, 1) := by decide +kernel
theorem dX0_carryOut_11 : decode cX0_carryOut 11 = .ok (.getfield 22, 3) := by decide +kernel
theorem dX0_carryOut_14 : decode cX0_carryOut 14 = .ok (.iload_n 1, 1) := by decide +kernel
theorem dX0_carryOut_15 : decode cX0_carryOut 15 = .ok (.iconst 1, 1) := by decide +kernel
theorem dX0_carryOut_16 : decode cX0_carryOut 16 = .ok (.iadd, 1) := by decide +kernel
theorem dX0_carryOut_17 : decode cX0_carryOut 17 = .ok (.iaload, 1) := by decide +kernel
theorem dX0_carryOut_18 : decode cX0_carryOut 18 = .ok (.if_icmp .ge 107, 3) := by decide +kernel
theorem dX0_carryOut_21 : decode cX0_carryOut 21 = .ok (.aload_n 0, 1) := by decide +kernel
theorem dX0_carryOut_22 : decode cX0_carryOut 22 = .ok (.getfield 25, 3) := by decide +kernel
theorem dX0_carryOut_25 : decode cX0_carryOut 25 = .ok (.iload 4, 2) := by decide +kernel
theorem dX0_carryOut_27 : decode cX0_carryOut 27 = .ok (.iaload, 1) := by decide +kernel
theorem dX0_carryOut_28 : decode cX0_carryOut 28 = .ok (.istore 5, 2) := by decide +kernel
theorem dX0_carryOut_30 : decode cX0_carryOut 30 = .ok (.aload_n 0, 1) := by decide +kernel
theorem dX0_carryOut_31 : decode cX0_carryOut 31 = .ok (.getfield 15, 3) := by decide +kernel
theorem dX0_carryOut_34 : decode cX0_carryOut 34 = .ok (.iload_n 1, 1) := by decide +kernel
theorem dX0_carryOut_35 : decode cX0_carryOut 35 = .ok (.iaload, 1) := by decide +kernel
theorem dX0_carryOut_36 : decode cX0_carryOut 36 = .ok (.lookupswitch 76 #[(33, 51), (46, 67), (62, 36)], 36) := by decide +kernel
theorem dX0_carryOut_72 : decode cX0_carryOut 72 = .ok (.aload_n 2, 1) := by decide +kernel
theorem dX0_carryOut_73 : decode cX0_carryOut 73 = .ok (.iload 5, 2) := by decide +kernel
theorem dX0_carryOut_75 : decode cX0_carryOut 75 = .ok (.aload_n 0, 1) := by decide +kernel
theorem dX0_carryOut_76 : decode cX0_carryOut 76 = .ok (.getfield 19, 3) := by decide +kernel
theorem dX0_carryOut_79 : decode cX0_carryOut 79 = .ok (.iload_n 1, 1) := by decide +kernel
theorem dX0_carryOut_80 : decode cX0_carryOut 80 = .ok (.iaload, 1) := by decide +kernel
theorem dX0_carryOut_81 : decode cX0_carryOut 81 = .ok (.invokevirtual 103, 3) := by decide +kernel
theorem dX0_carryOut_84 : decode cX0_carryOut 84 = .ok (.goto 35, 3) := by decide +kernel
theorem dX0_carryOut_87 : decode cX0_carryOut 87 = .ok (.aload_n 2, 1) := by decide +kernel
theorem dX0_carryOut_88 : decode cX0_carryOut 88 = .ok (.iload 5, 2) := by decide +kernel
theorem dX0_carryOut_90 : decode cX0_carryOut 90 = .ok (.aload_n 0, 1) := by decide +kernel
theorem dX0_carryOut_91 : decode cX0_carryOut 91 = .ok (.getfield 19, 3) := by decide +kernel
theorem dX0_carryOut_94 : decode cX0_carryOut 94 = .ok (.iload_n 1, 1) := by decide +kernel
theorem dX0_carryOut_95 : decode cX0_carryOut 95 = .ok (.iaload, 1) := by decide +kernel
theorem dX0_carryOut_96 : decode cX0_carryOut 96 = .ok (.aload_n 3, 1) := by decide +kernel
theorem dX0_carryOut_97 : decode cX0_carryOut 97 = .ok (.invokevirtual 107, 3) := by decide +kernel
theorem dX0_carryOut_100 : decode cX0_carryOut 100 = .ok (.goto 19, 3) := by decide +kernel
theorem dX0_carryOut_103 : decode cX0_carryOut 103 = .ok (.aload_n 2, 1) := by decide +kernel
theorem dX0_carryOut_104 : decode cX0_carryOut 104 = .ok (.iload 5, 2) := by decide +kernel
theorem dX0_carryOut_106 : decode cX0_carryOut 106 = .ok (.invokevirtual 111, 3) := by decide +kernel
theorem dX0_carryOut_109 : decode cX0_carryOut 109 = .ok (.goto 10, 3) := by decide +kernel
theorem dX0_carryOut_112 : decode cX0_carryOut 112 = .ok (.aload_n 2, 1) := by decide +kernel
theorem dX0_carryOut_113 : decode cX0_carryOut 113 = .ok (.iload 5, 2) := by decide +kernel
theorem dX0_carryOut_115 : decode cX0_carryOut 115 = .ok (.aload_n 3, 1) := by decide +kernel
theorem dX0_carryOut_116 : decode cX0_carryOut 116 = .ok (.invokevirtual 115, 3) := by decide +kernel
theorem dX0_carryOut_119 : decode cX0_carryOut 119 = .ok (.iinc 4 1, 3) := by decide +kernel
theorem dX0_carryOut_122 : decode cX0_carryOut 122 = .ok (.goto (-114), 3) := by decide +kernel
theorem dX0_carryOut_125 : decode cX0_carryOut 125 = .ok (.return_, 1) := by decide +kernel
set_option maxRecDepth 20000 in
set_option maxHeartbeats 4000000 in
theorem c_carryOut (E : xE) (l : Launch) (a : Nat → Nat) (ws : va_W) (hW : WX (okX E a) ws) (t : Nat) (ht : tb t) (k : Nat) (hk : k ≤ 23) (htg : tgW ws k) : xV E l yX0_carryOut cX0_carryOut 6 5 0 0 [.ref (a 87), .int (nI k), .ref (a t), .ref (a 71)] ws (fun w => WX (okX E a) w ∧ keeps ws w (fun q => (t ≤ q ∧ q < t + 22 ∧ q ≠ t + 1 ∧ q ≠ t + 4) ∨ (71 ≤ q ∧ q < 79))) := by
  refine xV_start (lv := [(0, .ref (a 87)), (1, .int (nI k)), (2, .ref (a t)), (3, .ref (a 71))]) RX0 (by decide) rfl (Nat.le_of_ble_eq_true rfl) rfl (fun p e s m below meth c A C hr hlk hin => ?_)
  have htb := tb_lo ht
  have kp0 : keeps ws ws (fun q => (t ≤ q ∧ q < t + 22 ∧ q ≠ t + 1 ∧ q ≠ t + 4) ∨ (71 ≤ q ∧ q < 79)) := keeps_rf
  obtain ⟨_, k1, f2, rfl⟩ := hW 88 _ rfl
  obtain ⟨_, k3, f4, rfl⟩ := hW 89 _ rfl
  have hT := (tgW_iff k1 k3).mp htg
  refine x_aload_n C dX0_carryOut_0 rfl 0 rfl rfl ?_
  obtain ⟨_, k5, n6, n8, bn7, bn9, rfl⟩ := hW 87 _ rfl
  refine x_get C (ci := 0) (k := 3) 87 k5 rfl in_X0 (by decide) w_298 rfl dX0_carryOut_1 rfl ?_
  refine x_iload_n C dX0_carryOut_4 rfl 1 rfl rfl ?_
  obtain ⟨_, k10, g11, gb12, rfl⟩ := hW 90 _ rfl
  refine x_ialk C (v := nI (g11 k)) k (nI_clamp (by omega)) (nI_pos (by omega)) (by omega) 90 k10 rfl dX0_carryOut_5 rfl ?_
  have bx13 := gb12 k
  refine x_istore C (lv' := [(4, .int (nI (g11 k))), (0, .ref (a 87)), (1, .int (nI k)), (2, .ref (a t)), (3, .ref (a 71))]) dX0_carryOut_6 (by decide) rfl rfl ?_
  have loop8 : ∀ (fu8 : Nat) (jj : Nat) (wl8 : va_W), WX (okX E a) wl8 → 140 - jj < fu8 → jj ≤ 140 → keeps ws wl8 (fun q => (t ≤ q ∧ q < t + 22 ∧ q ≠ t + 1 ∧ q ≠ t + 4) ∨ (71 ≤ q ∧ q < 79)) → X E p l e (xRm 5 0 0) s m ([.ref (a 87), .int (nI k), .ref (a t), .ref (a 71)] : List Value).toArray below meth c A 6 0 0 (MQ below (va_Qv (fun w => WX (okX E a) w ∧ keeps ws w (fun q => (t ≤ q ∧ q < t + 22 ∧ q ≠ t + 1 ∧ q ≠ t + 4) ∨ (71 ≤ q ∧ q < 79))) (xB E A) A) ([.ref (a 87), .int (nI k), .ref (a t), .ref (a 71)] : List Value).toArray s 0 0 A) wl8 8 [(0, .ref (a 87)), (1, .int (nI k)), (2, .ref (a t)), (3, .ref (a 71)), (4, .int (nI jj))] [] := by
    intro fu8
    induction fu8 with
    | zero => intro jj wl8 _ q; omega
    | succ fu8 ih8 =>
      intro jj wl8 hWl8 me8 iv8_0 kq8
      have k14 : wl8[88]? = some (iA E (a 88) 24 f2) := keeps_at kq8 k1 (by first | decide | omega | (dsimp only; omega))
      have k15 : wl8[89]? = some (iA E (a 89) 24 f4) := keeps_at kq8 k3 (by first | decide | omega | (dsimp only; omega))
      refine x_iload C dX0_carryOut_8 4 rfl rfl ?_
      refine x_aload_n C dX0_carryOut_10 rfl 0 rfl rfl ?_
      obtain ⟨_, k16, n17, n19, bn18, bn20, rfl⟩ := hWl8 87 _ rfl
      refine x_get C (ci := 0) (k := 3) 87 k16 rfl in_X0 (by decide) w_298 rfl dX0_carryOut_11 rfl ?_
      refine x_iload_n C dX0_carryOut_14 rfl 1 rfl rfl ?_
      refine x_iconst C (v := 1) dX0_carryOut_15 (by decide) rfl ?_
      refine x_iadd C (v := (nI (k + 1))) dX0_carryOut_16 (nI_add k 1) rfl ?_
      obtain ⟨_, k21, g22, gb23, rfl⟩ := hWl8 90 _ rfl
      refine x_ialk C (v := nI (g22 (k + 1))) (k + 1) (nI_clamp (by omega)) (nI_pos (by omega)) (by omega) 90 k21 rfl dX0_carryOut_17 rfl ?_
      have bx24 := gb23 (k + 1)
      refine x_icmp_ge C (tgt := 125) dX0_carryOut_18 (by decide) rfl (fun c25 => ?_) (fun c25 => ?_)
      · skip
        have nf26 := nI_le' (a := (g22 (k + 1))) (b := jj) c25 (by omega) (by omega)
        exact x_vret C hr hlk dX0_carryOut_125 ⟨hWl8, kq8⟩
      · skip
        have nf27 := nI_nle' (a := (g22 (k + 1))) (b := jj) c25 (by omega) (by omega)
        refine x_aload_n C dX0_carryOut_21 rfl 0 rfl rfl ?_
        refine x_get C (ci := 0) (k := 4) 87 k16 rfl in_X0 (by decide) w_299 rfl dX0_carryOut_22 rfl ?_
        refine x_iload C dX0_carryOut_25 4 rfl rfl ?_
        obtain ⟨_, k28, g29, gb30, rfl⟩ := hWl8 91 _ rfl
        refine x_ialk C (v := nI (g29 jj)) jj (nI_clamp (by omega)) (nI_pos (by omega)) (by omega) 91 k28 rfl dX0_carryOut_27 rfl ?_
        have bx31 := gb30 jj
        refine x_istore C (lv' := [(5, .int (nI (g29 jj))), (0, .ref (a 87)), (1, .int (nI k)), (2, .ref (a t)), (3, .ref (a 71)), (4, .int (nI jj))]) dX0_carryOut_28 (by decide) rfl rfl ?_
        refine x_aload_n C dX0_carryOut_30 rfl 1 rfl rfl ?_
        refine x_get C (ci := 0) (k := 1) 87 k16 rfl in_X0 (by decide) w_296 rfl dX0_carryOut_31 rfl ?_
        refine x_iload_n C dX0_carryOut_34 rfl 2 rfl rfl ?_
        refine x_ialk C (v := (f2 k)) k (nI_clamp (by omega)) (nI_pos (by omega)) (by omega) 88 k14 rfl dX0_carryOut_35 rfl ?_
        by_cases e32 : (f2 k) = 33
        · refine x_look C (off := 51) (tgt := 87) dX0_carryOut_36 (by decide) (by rw [e32]; decide) (by decide) ?_
          refine x_aload_n C dX0_carryOut_87 rfl 3 rfl rfl ?_
          refine x_iload C dX0_carryOut_88 0 rfl rfl ?_
          refine x_aload_n C dX0_carryOut_90 rfl 1 rfl rfl ?_
          refine x_get C (ci := 0) (k := 2) 87 k16 rfl in_X0 (by decide) w_297 rfl dX0_carryOut_91 rfl ?_
          refine x_iload_n C dX0_carryOut_94 rfl 2 rfl rfl ?_
          refine x_ialk C (v := (f4 k)) k (nI_clamp (by omega)) (nI_pos (by omega)) (by omega) 89 k15 rfl dX0_carryOut_95 rfl ?_
          obtain ⟨tj33, tl34, th35, et36⟩ := w_nat (a := 0) (b := 7) (by decide) (by decide) (hT (Or.inr e32))
          refine x_top (v := nI tj33) et36 ?_
          refine x_aload_n C dX0_carryOut_96 rfl 4 rfl rfl ?_
          obtain ⟨_, k37, n38, v40, v41, v42, v43, v44, bn39, rfl⟩ := hWl8 (t + 0) _ (okX_t ht (j := 0) rfl)
          refine x_vv C (As := [.int (nI (g29 jj)), .int (nI tj33), .ref (a 71)]) (rest := []) (c_breakFor E l a wl8 hWl8 t ht (g29 jj) tj33 (by omega) (by omega)) mf_X9_breakFor w_727 t k37 rfl rfl rfl (Nat.le_of_ble_eq_true rfl) ⟨(Nat.le_of_ble_eq_true rfl), (Nat.le_of_ble_eq_true rfl)⟩ ⟨(Nat.le_of_ble_eq_true rfl), (Nat.le_of_ble_eq_true rfl)⟩ dX0_carryOut_97 rfl (fun w47 h45 => ?_)
          obtain ⟨hW48, kq49⟩ := h45
          have k50 : w47[88]? = some (iA E (a 88) 24 f2) := keeps_at kq49 k14 (by first | decide | omega | (dsimp only; omega))
          have k51 : w47[89]? = some (iA E (a 89) 24 f4) := keeps_at kq49 k15 (by first | decide | omega | (dsimp only; omega))
          have k52 : w47[87]? = some (ob (a 87) 0 [.int (nI n17), .ref (a 88), .ref (a 89), .ref (a 90), .ref (a 91), .int (nI n19)]) := keeps_at kq49 k16 (by first | decide | omega | (dsimp only; omega))
          have k53 : w47[90]? = some (iA E (a 90) 25 (fun j => nI (g22 j))) := keeps_at kq49 k21 (by first | decide | omega | (dsimp only; omega))
          have k54 : w47[91]? = some (iA E (a 91) 140 (fun j => nI (g29 j))) := keeps_at kq49 k28 (by first | decide | omega | (dsimp only; omega))
          have kp55 := keeps_tr kq8 kq49 (fun q hq => by first | omega | (dsimp only at *; omega))
          refine x_goto C (tgt := 119) dX0_carryOut_100 (by decide) ?_
          refine x_iinc C (v := (nI (jj + 1))) (lv' := [(4, .int (nI (jj + 1))), (5, .int (nI (g29 jj))), (0, .ref (a 87)), (1, .int (nI k)), (2, .ref (a t)), (3, .ref (a 71))]) dX0_carryOut_119 5 rfl (nI_add jj 1) (by decide) rfl rfl ?_
          refine x_goto C (tgt := 8) dX0_carryOut_122 (by decide) ?_
          refine x_lv (lv1 := [(0, .ref (a 87)), (1, .int (nI k)), (2, .ref (a t)), (3, .ref (a 71)), (4, .int (nI (jj + 1)))]) [2, 3, 4, 5, 0] rfl ?_
          exact ih8 (jj + 1) w47 hW48 (by omega) (by omega) kp55
        by_cases e56 : (f2 k) = 46
        · refine x_look C (off := 67) (tgt := 103) dX0_carryOut_36 (by decide) (by rw [e56]; decide) (by decide) ?_
          refine x_aload_n C dX0_carryOut_103 rfl 3 rfl rfl ?_
          refine x_iload C dX0_carryOut_104 0 rfl rfl ?_
          obtain ⟨_, k57, n58, v60, v61, v62, v63, v64, bn59, rfl⟩ := hWl8 (t + 0) _ (okX_t ht (j := 0) rfl)
          refine x_vv C (As := [.int (nI (g29 jj))]) (rest := []) (c_breakEgg E l a wl8 hWl8 t ht (g29 jj) (by omega)) mf_X9_breakEgg w_778 t k57 rfl rfl rfl (Nat.le_of_ble_eq_true rfl) ⟨(Nat.le_of_ble_eq_true rfl), (Nat.le_of_ble_eq_true rfl)⟩ ⟨(Nat.le_of_ble_eq_true rfl), (Nat.le_of_ble_eq_true rfl)⟩ dX0_carryOut_106 rfl (fun w67 h65 => ?_)
          obtain ⟨hW68, kq69⟩ := h65
          have k70 : w67[88]? = some (iA E (a 88) 24 f2) := keeps_at kq69 k14 (by first | decide | omega | (dsimp only; omega))
          have k71 : w67[89]? = some (iA E (a 89) 24 f4) := keeps_at kq69 k15 (by first | decide | omega | (dsimp only; omega))
          have k72 : w67[87]? = some (ob (a 87) 0 [.int (nI n17), .ref (a 88), .ref (a 89), .ref (a 90), .ref (a 91), .int (nI n19)]) := keeps_at kq69 k16 (by first | decide | omega | (dsimp only; omega))
          have k73 : w67[90]? = some (iA E (a 90) 25 (fun j => nI (g22 j))) := keeps_at kq69 k21 (by first | decide | omega | (dsimp only; omega))
          have k74 : w67[91]? = some (iA E (a 91) 140 (fun j => nI (g29 j))) := keeps_at kq69 k28 (by first | decide | omega | (dsimp only; omega))
          have kp75 := keeps_tr kq8 kq69 (fun q hq => by first | omega | (dsimp only at *; omega))
          refine x_goto C (tgt := 119) dX0_carryOut_109 (by decide) ?_
          refine x_iinc C (v := (nI (jj + 1))) (lv' := [(4, .int (nI (jj + 1))), (5, .int (nI (g29 jj))), (0, .ref (a 87)), (1, .int (nI k)), (2, .ref (a t)), (3, .ref (a 71))]) dX0_carryOut_119 5 rfl (nI_add jj 1) (by decide) rfl rfl ?_
          refine x_goto C (tgt := 8) dX0_carryOut_122 (by decide) ?_
          refine x_lv (lv1 := [(0, .ref (a 87)), (1, .int (nI k)), (2, .ref (a t)), (3, .ref (a 71)), (4, .int (nI (jj + 1)))]) [2, 3, 4, 5, 0] rfl ?_
          exact ih8 (jj + 1) w67 hW68 (by omega) (by omega) kp75
        by_cases e76 : (f2 k) = 62
        · refine x_look C (off := 36) (tgt := 72) dX0_carryOut_36 (by decide) (by rw [e76]; decide) (by decide) ?_
          refine x_aload_n C dX0_carryOut_72 rfl 3 rfl rfl ?_
          refine x_iload C dX0_carryOut_73 0 rfl rfl ?_
          refine x_aload_n C dX0_carryOut_75 rfl 1 rfl rfl ?_
          refine x_get C (ci := 0) (k := 2) 87 k16 rfl in_X0 (by decide) w_297 rfl dX0_carryOut_76 rfl ?_
          refine x_iload_n C dX0_carryOut_79 rfl 2 rfl rfl ?_
          refine x_ialk C (v := (f4 k)) k (nI_clamp (by omega)) (nI_pos (by omega)) (by omega) 89 k15 rfl dX0_carryOut_80 rfl ?_
          obtain ⟨tj77, tl78, th79, et80⟩ := w_nat (a := 0) (b := 7) (by decide) (by decide) (hT (Or.inl e76))
          refine x_top (v := nI tj77) et80 ?_
          obtain ⟨_, k81, n82, v84, v85, v86, v87, v88, bn83, rfl⟩ := hWl8 (t + 0) _ (okX_t ht (j := 0) rfl)
          refine x_vv C (As := [.int (nI (g29 jj)), .int (nI tj77)]) (rest := []) (c_give E l a wl8 hWl8 t ht (g29 jj) tj77 (by omega) (by omega)) mf_X9_give w_723 t k81 rfl rfl rfl (Nat.le_of_ble_eq_true rfl) ⟨(Nat.le_of_ble_eq_true rfl), (Nat.le_of_ble_eq_true rfl)⟩ ⟨(Nat.le_of_ble_eq_true rfl), (Nat.le_of_ble_eq_true rfl)⟩ dX0_carryOut_81 rfl (fun w91 h89 => ?_)
          obtain ⟨hW92, kq93⟩ := h89
          have k94 : w91[88]? = some (iA E (a 88) 24 f2) := keeps_at kq93 k14 (by first | decide | omega | (dsimp only; omega))
          have k95 : w91[89]? = some (iA E (a 89) 24 f4) := keeps_at kq93 k15 (by first | decide | omega | (dsimp only; omega))
          have k96 : w91[87]? = some (ob (a 87) 0 [.int (nI n17), .ref (a 88), .ref (a 89), .ref (a 90), .ref (a 91), .int (nI n19)]) := keeps_at kq93 k16 (by first | decide | omega | (dsimp only; omega))
          have k97 : w91[90]? = some (iA E (a 90) 25 (fun j => nI (g22 j))) := keeps_at kq93 k21 (by first | decide | omega | (dsimp only; omega))
          have k98 : w91[91]? = some (iA E (a 91) 140 (fun j => nI (g29 j))) := keeps_at kq93 k28 (by first | decide | omega | (dsimp only; omega))
          have kp99 := keeps_tr kq8 kq93 (fun q hq => by first | omega | (dsimp only at *; omega))
          refine x_goto C (tgt := 119) dX0_carryOut_84 (by decide) ?_
          refine x_iinc C (v := (nI (jj + 1))) (lv' := [(4, .int (nI (jj + 1))), (5, .int (nI (g29 jj))), (0, .ref (a 87)), (1, .int (nI k)), (2, .ref (a t)), (3, .ref (a 71))]) dX0_carryOut_119 5 rfl (nI_add jj 1) (by decide) rfl rfl ?_
          refine x_goto C (tgt := 8) dX0_carryOut_122 (by decide) ?_
          refine x_lv (lv1 := [(0, .ref (a 87)), (1, .int (nI k)), (2, .ref (a t)), (3, .ref (a 71)), (4, .int (nI (jj + 1)))]) [2, 3, 4, 5, 0] rfl ?_
          exact ih8 (jj + 1) w91 hW92 (by omega) (by omega) kp99
        refine x_look C (off := 76) (tgt := 112) dX0_carryOut_36 (by decide) ((lv_osw e32 (by decide)).trans ((lv_osw e56 (by decide)).trans ((lv_osw e76 (by decide)).trans rfl))) (by decide) ?_
        refine x_aload_n C dX0_carryOut_112 rfl 3 rfl rfl ?_
        refine x_iload C dX0_carryOut_113 0 rfl rfl ?_
        refine x_aload_n C dX0_carryOut_115 rfl 4 rfl rfl ?_
        obtain ⟨_, k100, n101, v103, v104, v105, v106, v107, bn102, rfl⟩ := hWl8 (t + 0) _ (okX_t ht (j := 0) rfl)
        refine x_vv C (As := [.int (nI (g29 jj)), .ref (a 71)]) (rest := []) (c_brood E l a wl8 hWl8 t ht (g29 jj) (by omega)) mf_X9_brood w_779 t k100 rfl rfl rfl (Nat.le_of_ble_eq_true rfl) ⟨(Nat.le_of_ble_eq_true rfl), (Nat.le_of_ble_eq_true rfl)⟩ ⟨(Nat.le_of_ble_eq_true rfl), (Nat.le_of_ble_eq_true rfl)⟩ dX0_carryOut_116 rfl (fun w110 h108 => ?_)
        obtain ⟨hW111, kq112⟩ := h108
        have k113 : w110[88]? = some (iA E (a 88) 24 f2) := keeps_at kq112 k14 (by first | decide | omega | (dsimp only; omega))
        have k114 : w110[89]? = some (iA E (a 89) 24 f4) := keeps_at kq112 k15 (by first | decide | omega | (dsimp only; omega))
        have k115 : w110[87]? = some (ob (a 87) 0 [.int (nI n17), .ref (a 88), .ref (a 89), .ref (a 90), .ref (a 91), .int (nI n19)]) := keeps_at kq112 k16 (by first | decide | omega | (dsimp only; omega))
        have k116 : w110[90]? = some (iA E (a 90) 25 (fun j => nI (g22 j))) := keeps_at kq112 k21 (by first | decide | omega | (dsimp only; omega))
        have k117 : w110[91]? = some (iA E (a 91) 140 (fun j => nI (g29 j))) := keeps_at kq112 k28 (by first | decide | omega | (dsimp only; omega))
        have kp118 := keeps_tr kq8 kq112 (fun q hq => by first | omega | (dsimp only at *; omega))
        refine x_iinc C (v := (nI (jj + 1))) (lv' := [(4, .int (nI (jj + 1))), (5, .int (nI (g29 jj))), (0, .ref (a 87)), (1, .int (nI k)), (2, .ref (a t)), (3, .ref (a 71))]) dX0_carryOut_119 5 rfl (nI_add jj 1) (by decide) rfl rfl ?_
        refine x_goto C (tgt := 8) dX0_carryOut_122 (by decide) ?_
        refine x_lv (lv1 := [(0, .ref (a 87)), (1, .int (nI k)), (2, .ref (a t)), (3, .ref (a 71)), (4, .int (nI (jj + 1)))]) [2, 3, 4, 5, 0] rfl ?_
        exact ih8 (jj + 1) w110 hW111 (by omega) (by omega) kp118
  refine x_lv (lv1 := [(0, .ref (a 87)), (1, .int (nI k)), (2, .ref (a t)), (3, .ref (a 71)), (4, .int (nI (g11 k)))]) [1, 2, 3, 4, 0] rfl ?_
  exact loop8 _ (g11 k) ws hW (Nat.lt_succ_self _) (by omega) kp0
