theorem dX0_canBe_0 : decode cX0_canBe 0 = .ok (.aload_n 0, 1) := by decide +kernel
theorem dX0_canBe_1 : decode cX0_canBe 1 = .ok (.getfield 15, 3) := by decide +kernel
theorem dX0_canBe_4 : decode cX0_canBe 4 = .ok (.iload_n 1, 1) := by decide +kernel
theorem dX0_canBe_5 : decode cX0_canBe 5 = .ok (.iaload, 1) := by decide +kernel
theorem dX0_canBe_6 : decode cX0_canBe 6 = .ok (.istore_n 3, 1) := by decide +kernel
theorem dX0_canBe_7 : decode cX0_canBe 7 = .ok (.aload_n 0, 1) := by decide +kernel
theorem dX0_canBe_8 : decode cX0_canBe 8 = .ok (.getfield 19, 3) := by decide +kernel
theorem dX0_canBe_11 : decode cX0_canBe 11 = .ok (.iload_n 1, 1) := by decide +kernel
theorem dX0_canBe_12 : decode cX0_canBe 12 = .ok (.iaload, 1) := by decide +kernel
theorem dX0_canBe_13 : decode cX0_canBe 13 = .ok (.istore 4, 2) := by decide +kernel
theorem dX0_canBe_15 : decode cX0_canBe 15 = .ok (.iload_n 3, 1) := by decide +kernel
theorem dX0_canBe_16 : decode cX0_canBe 16 = .ok (.bipush 62, 2) := by decide +kernel
theorem dX0_canBe_18 : decode cX0_canBe 18 = .ok (.if_icmp .ne 15, 3) := by decide +kernel
theorem dX0_canBe_21 : decode cX0_canBe 21 = .ok (.aload_n 2, 1) := by decide +kernel
theorem dX0_canBe_22 : decode cX0_canBe 22 = .ok (.getfield 68, 3) := by decide +kernel
theorem dX0_canBe_25 : decode cX0_canBe 25 = .ok (.iload 4, 2) := by decide +kernel
theorem dX0_canBe_27 : decode cX0_canBe 27 = .ok (.invokevirtual 74, 3) := by decide +kernel
theorem dX0_canBe_30 : decode cX0_canBe 30 = .ok (.ifCond .eq 33, 3) := by decide +kernel
theorem dX0_canBe_33 : decode cX0_canBe 33 = .ok (.iload_n 3, 1) := by decide +kernel
theorem dX0_canBe_34 : decode cX0_canBe 34 = .ok (.bipush 33, 2) := by decide +kernel
theorem dX0_canBe_36 : decode cX0_canBe 36 = .ok (.if_icmp .ne 29, 3) := by decide +kernel
theorem dX0_canBe_39 : decode cX0_canBe 39 = .ok (.aload_n 2, 1) := by decide +kernel
theorem dX0_canBe_40 : decode cX0_canBe 40 = .ok (.getfield 79, 3) := by decide +kernel
theorem dX0_canBe_43 : decode cX0_canBe 43 = .ok (.iload 4, 2) := by decide +kernel
theorem dX0_canBe_45 : decode cX0_canBe 45 = .ok (.invokevirtual 83, 3) := by decide +kernel
theorem dX0_canBe_48 : decode cX0_canBe 48 = .ok (.ifCond .eq 15, 3) := by decide +kernel
theorem dX0_canBe_51 : decode cX0_canBe 51 = .ok (.aload_n 2, 1) := by decide +kernel
theorem dX0_canBe_52 : decode cX0_canBe 52 = .ok (.getfield 79, 3) := by decide +kernel
theorem dX0_canBe_55 : decode cX0_canBe 55 = .ok (.iload 4, 2) := by decide +kernel
theorem dX0_canBe_57 : decode cX0_canBe 57 = .ok (.invokevirtual 86, 3) := by decide +kernel
theorem dX0_canBe_60 : decode cX0_canBe 60 = .ok (.ifCond .eq 5, 3) := by decide +kernel
theorem dX0_canBe_63 : decode cX0_canBe 63 = .ok (.iconst 0, 1) := by decide +kernel
theorem dX0_canBe_64 : decode cX0_canBe 64 = .ok (.ireturn, 1) := by decide +kernel
theorem dX0_canBe_65 : decode cX0_canBe 65 = .ok (.aload_n 0, 1) := by decide +kernel
theorem dX0_canBe_66 : decode cX0_canBe 66 = .ok (.getfield 22, 3) := by decide +kernel
theorem dX0_canBe_69 : decode cX0_canBe 69 = .ok (.iload_n 1, 1) := by decide +kernel
theorem dX0_canBe_70 : decode cX0_canBe 70 = .ok (.iaload, 1) := by decide +kernel
theorem dX0_canBe_71 : decode cX0_canBe 71 = .ok (.istore 5, 2) := by decide +kernel
theorem dX0_canBe_73 : decode cX0_canBe 73 = .ok (.iload 5, 2) := by decide +kernel
theorem dX0_canBe_75 : decode cX0_canBe 75 = .ok (.aload_n 0, 1) := by decide +kernel
theorem dX0_canBe_76 : decode cX0_canBe 76 = .ok (.getfield 22, 3) := by decide +kernel
theorem dX0_canBe_79 : decode cX0_canBe 79 = .ok (.iload_n 1, 1) := by decide +kernel
theorem dX0_canBe_80 : decode cX0_canBe 80 = .ok (.iconst 1, 1) := by decide +kernel
theorem dX0_canBe_81 : decode cX0_canBe 81 = .ok (.iadd, 1) := by decide +kernel
theorem dX0_canBe_82 : decode cX0_canBe 82 = .ok (.iaload, 1) := by decide +kernel
theorem dX0_canBe_83 : decode cX0_canBe 83 = .ok (.if_icmp .ge 74, 3) := by decide +kernel
theorem dX0_canBe_86 : decode cX0_canBe 86 = .ok (.aload_n 0, 1) := by decide +kernel
theorem dX0_canBe_87 : decode cX0_canBe 87 = .ok (.getfield 25, 3) := by decide +kernel
theorem dX0_canBe_90 : decode cX0_canBe 90 = .ok (.iload 5, 2) := by decide +kernel
theorem dX0_canBe_92 : decode cX0_canBe 92 = .ok (.iaload, 1) := by decide +kernel
theorem dX0_canBe_93 : decode cX0_canBe 93 = .ok (.istore 6, 2) := by decide +kernel
theorem dX0_canBe_95 : decode cX0_canBe 95 = .ok (.aload_n 2, 1) := by decide +kernel
theorem dX0_canBe_96 : decode cX0_canBe 96 = .ok (.getfield 89, 3) := by decide +kernel
theorem dX0_canBe_99 : decode cX0_canBe 99 = .ok (.iload 6, 2) := by decide +kernel
theorem dX0_canBe_101 : decode cX0_canBe 101 = .ok (.invokevirtual 92, 3) := by decide +kernel
theorem dX0_canBe_104 : decode cX0_canBe 104 = .ok (.ifCond .eq 45, 3) := by decide +kernel
theorem dX0_canBe_107 : decode cX0_canBe 107 = .ok (.iload_n 3, 1) := by decide +kernel
theorem dX0_canBe_108 : decode cX0_canBe 108 = .ok (.bipush 62, 2) := by decide +kernel
theorem dX0_canBe_110 : decode cX0_canBe 110 = .ok (.if_icmp .ne 18, 3) := by decide +kernel
theorem dX0_canBe_113 : decode cX0_canBe 113 = .ok (.aload_n 2, 1) := by decide +kernel
theorem dX0_canBe_114 : decode cX0_canBe 114 = .ok (.getfield 89, 3) := by decide +kernel
theorem dX0_canBe_117 : decode cX0_canBe 117 = .ok (.getfield 97, 3) := by decide +kernel
theorem dX0_canBe_120 : decode cX0_canBe 120 = .ok (.iload 6, 2) := by decide +kernel
theorem dX0_canBe_122 : decode cX0_canBe 122 = .ok (.iaload, 1) := by decide +kernel
theorem dX0_canBe_123 : decode cX0_canBe 123 = .ok (.iload 4, 2) := by decide +kernel
theorem dX0_canBe_125 : decode cX0_canBe 125 = .ok (.if_icmp .eq 24, 3) := by decide +kernel
theorem dX0_canBe_128 : decode cX0_canBe 128 = .ok (.iload_n 3, 1) := by decide +kernel
theorem dX0_canBe_129 : decode cX0_canBe 129 = .ok (.bipush 42, 2) := by decide +kernel
theorem dX0_canBe_131 : decode cX0_canBe 131 = .ok (.if_icmp .ne 20, 3) := by decide +kernel
theorem dX0_canBe_134 : decode cX0_canBe 134 = .ok (.aload_n 2, 1) := by decide +kernel
theorem dX0_canBe_135 : decode cX0_canBe 135 = .ok (.getfield 89, 3) := by decide +kernel
theorem dX0_canBe_138 : decode cX0_canBe 138 = .ok (.getfield 100, 3) := by decide +kernel
theorem dX0_canBe_141 : decode cX0_canBe 141 = .ok (.iload 6, 2) := by decide +kernel
theorem dX0_canBe_143 : decode cX0_canBe 143 = .ok (.iaload, 1) := by decide +kernel
theorem dX0_canBe_144 : decode cX0_canBe 144 = .ok (.bipush 9, 2) := by decide +kernel
theorem dX0_canBe_146 : decode cX0_canBe 146 = .ok (.if_icmp .lt 5, 3) := by decide +kernel
theorem dX0_canBe_149 : decode cX0_canBe 149 = .ok (.iconst 0, 1) := by decide +kernel
theorem dX0_canBe_150 : decode cX0_canBe 150 = .ok (.ireturn, 1) := by decide +kernel
theorem dX0_canBe_151 : decode cX0_canBe 151 = .ok (.iinc 5 1, 3) := by decide +kernel
theorem dX0_canBe_154 : decode cX0_canBe 154 = .ok (.goto (-81), 3) := by decide +kernel
theorem dX0_canBe_157 : decode cX0_canBe 157 = .ok (.iconst 1, 1) := by decide +kernel
theorem dX0_canBe_158 : decode cX0_canBe 158 = .ok (.ireturn, 1) := by decide +kernel
set_option maxRecDepth 20000 in
set_option maxHeartbeats 4000000 in
theorem c_canBe (E : xE) (l : Launch) (a : Nat → Nat) (ws : va_W) (hW : WX (okX E a) ws) (t : Nat) (ht : tb t) (k : Nat) (hk : k ≤ 23) : xI E l yX0_canBe cX0_canBe 7 (some .boolean) 3 [.ref (a 87), .int (nI k), .ref (a t)] ws (fun r w => w = ws ∧ zb r ∧ (¬ r = 0 → tgW ws k)) := by
  refine xI_start (lv := [(0, .ref (a 87)), (1, .int (nI k)), (2, .ref (a t))]) RX0 (by decide) rfl (Nat.le_of_ble_eq_true rfl) rfl (fun p e s m below meth c A C hr hlk => ?_)
  have htb := tb_lo ht
  obtain ⟨_, k1, f2, rfl⟩ := hW 88 _ rfl
  obtain ⟨_, k3, f4, rfl⟩ := hW 89 _ rfl
  refine x_aload_n C dX0_canBe_0 rfl 0 rfl rfl ?_
  obtain ⟨_, k5, n6, n8, bn7, bn9, rfl⟩ := hW 87 _ rfl
  refine x_get C (ci := 0) (k := 1) 87 k5 rfl in_X0 (by decide) w_296 rfl dX0_canBe_1 rfl ?_
  refine x_iload_n C dX0_canBe_4 rfl 1 rfl rfl ?_
  refine x_ialk C (v := (f2 k)) k (nI_clamp (by omega)) (nI_pos (by omega)) (by omega) 88 k1 rfl dX0_canBe_5 rfl ?_
  refine x_istore_n C (lv' := [(3, .int (f2 k)), (0, .ref (a 87)), (1, .int (nI k)), (2, .ref (a t))]) dX0_canBe_6 rfl (by decide) rfl rfl ?_
  refine x_aload_n C dX0_canBe_7 rfl 1 rfl rfl ?_
  refine x_get C (ci := 0) (k := 2) 87 k5 rfl in_X0 (by decide) w_297 rfl dX0_canBe_8 rfl ?_
  refine x_iload_n C dX0_canBe_11 rfl 2 rfl rfl ?_
  refine x_ialk C (v := (f4 k)) k (nI_clamp (by omega)) (nI_pos (by omega)) (by omega) 89 k3 rfl dX0_canBe_12 rfl ?_
  refine x_istore C (lv' := [(4, .int (f4 k)), (3, .int (f2 k)), (0, .ref (a 87)), (1, .int (nI k)), (2, .ref (a t))]) dX0_canBe_13 (by decide) rfl rfl ?_
  refine x_iload_n C dX0_canBe_15 rfl 1 rfl rfl ?_
  refine x_bipush C (v := 62) dX0_canBe_16 (by decide) rfl ?_
  refine x_icmp_ne C (tgt := 33) dX0_canBe_18 (by decide) rfl (fun c10 => ?_) (fun c10 => ?_)
  · skip
    refine x_iload_n C dX0_canBe_33 rfl 1 rfl rfl ?_
    refine x_bipush C (v := 33) dX0_canBe_34 (by decide) rfl ?_
    refine x_icmp_ne C (tgt := 65) dX0_canBe_36 (by decide) rfl (fun c11 => ?_) (fun c11 => ?_)
    · skip
      refine x_aload_n C dX0_canBe_65 rfl 2 rfl rfl ?_
      refine x_get C (ci := 0) (k := 3) 87 k5 rfl in_X0 (by decide) w_298 rfl dX0_canBe_66 rfl ?_
      refine x_iload_n C dX0_canBe_69 rfl 3 rfl rfl ?_
      obtain ⟨_, k12, g13, gb14, rfl⟩ := hW 90 _ rfl
      refine x_ialk C (v := nI (g13 k)) k (nI_clamp (by omega)) (nI_pos (by omega)) (by omega) 90 k12 rfl dX0_canBe_70 rfl ?_
      have bx15 := gb14 k
      refine x_istore C (lv' := [(5, .int (nI (g13 k))), (4, .int (f4 k)), (3, .int (f2 k)), (0, .ref (a 87)), (1, .int (nI k)), (2, .ref (a t))]) dX0_canBe_71 (by decide) rfl rfl ?_
      have loop73 : ∀ (fu73 : Nat) (jj : Nat), True → 140 - jj < fu73 → jj ≤ 140 → X E p l e (xRm 3 0 0) s m ([.ref (a 87), .int (nI k), .ref (a t)] : List Value).toArray below meth c A 7 0 0 (MQ below (va_Qi (fun r w => w = ws ∧ zb r ∧ (¬ r = 0 → tgW ws k)) (xB E A) A) ([.ref (a 87), .int (nI k), .ref (a t)] : List Value).toArray s 0 0 A) ws 73 [(0, .ref (a 87)), (1, .int (nI k)), (2, .ref (a t)), (3, .int (f2 k)), (4, .int (f4 k)), (5, .int (nI jj))] [] := by
        intro fu73
        induction fu73 with
        | zero => intro jj _ q; omega
        | succ fu73 ih73 =>
          intro jj _ me73 iv73_0
          refine x_iload C dX0_canBe_73 5 rfl rfl ?_
          refine x_aload_n C dX0_canBe_75 rfl 0 rfl rfl ?_
          refine x_get C (ci := 0) (k := 3) 87 k5 rfl in_X0 (by decide) w_298 rfl dX0_canBe_76 rfl ?_
          refine x_iload_n C dX0_canBe_79 rfl 1 rfl rfl ?_
          refine x_iconst C (v := 1) dX0_canBe_80 (by decide) rfl ?_
          refine x_iadd C (v := (nI (k + 1))) dX0_canBe_81 (nI_add k 1) rfl ?_
          refine x_ialk C (v := nI (g13 (k + 1))) (k + 1) (nI_clamp (by omega)) (nI_pos (by omega)) (by omega) 90 k12 rfl dX0_canBe_82 rfl ?_
          have bx16 := gb14 (k + 1)
          refine x_icmp_ge C (tgt := 157) dX0_canBe_83 (by decide) rfl (fun c17 => ?_) (fun c17 => ?_)
          · skip
            have nf18 := nI_le' (a := (g13 (k + 1))) (b := jj) c17 (by omega) (by omega)
            refine x_iconst C (v := 1) dX0_canBe_157 (by decide) rfl ?_
            exact x_zret C hr hlk rfl dX0_canBe_158 ⟨rfl, (Or.inr rfl), (fun _ => (tgW_iff k1 k3).mpr (fun q => by first | assumption | (rcases q with q | q <;> first | exact absurd q (by assumption) | assumption)))⟩
          · skip
            have nf19 := nI_nle' (a := (g13 (k + 1))) (b := jj) c17 (by omega) (by omega)
            refine x_aload_n C dX0_canBe_86 rfl 0 rfl rfl ?_
            refine x_get C (ci := 0) (k := 4) 87 k5 rfl in_X0 (by decide) w_299 rfl dX0_canBe_87 rfl ?_
            refine x_iload C dX0_canBe_90 5 rfl rfl ?_
            obtain ⟨_, k20, g21, gb22, rfl⟩ := hW 91 _ rfl
            refine x_ialk C (v := nI (g21 jj)) jj (nI_clamp (by omega)) (nI_pos (by omega)) (by omega) 91 k20 rfl dX0_canBe_92 rfl ?_
            have bx23 := gb22 jj
            refine x_istore C (lv' := [(6, .int (nI (g21 jj))), (0, .ref (a 87)), (1, .int (nI k)), (2, .ref (a t)), (3, .int (f2 k)), (4, .int (f4 k)), (5, .int (nI jj))]) dX0_canBe_93 (by decide) rfl rfl ?_
            refine x_aload_n C dX0_canBe_95 rfl 3 rfl rfl ?_
            obtain ⟨_, k24, v25, v26, v27, v28, v29, v30, rfl⟩ := hW (t + 0) _ (okX_t ht (j := 0) rfl)
            refine x_get C (ci := 8) (k := 4) t k24 rfl in_X9 (by decide) w_210 rfl dX0_canBe_96 rfl ?_
            refine x_iload C dX0_canBe_99 0 rfl rfl ?_
            obtain ⟨_, k31, n32, bn33, rfl⟩ := hW (t + 9) _ (okX_t ht (j := 9) rfl)
            refine x_vi C (As := [.int (nI (g21 jj))]) (rest := []) (c_Eggs_isWhole E l a ws hW t ht ((nI (g21 jj)))) mf_X1_isWhole w_711 (t + 9) k31 rfl rfl rfl (Nat.le_of_ble_eq_true rfl) ⟨(Nat.le_of_ble_eq_true rfl), (Nat.le_of_ble_eq_true rfl)⟩ ⟨(Nat.le_of_ble_eq_true rfl), (Nat.le_of_ble_eq_true rfl)⟩ dX0_canBe_101 rfl (fun r35 w36 h34 => ?_)
            obtain ⟨hW37, zb38, x39⟩ := h34
            refine x_ws hW37 ?_
            refine x_if_eq C (tgt := 149) dX0_canBe_104 (by decide) rfl (fun c40 => ?_) (fun c40 => ?_)
            · skip
              refine x_iconst C (v := 0) dX0_canBe_149 (by decide) rfl ?_
              exact x_zret C hr hlk rfl dX0_canBe_150 ⟨rfl, (Or.inl rfl), (fun q => absurd rfl q)⟩
            · skip
              have wi41 := wth_le (a := 0) (b := 47) (j := (g21 jj)) (x39 c40) (by omega) (by decide) (by decide)
              refine x_iload_n C dX0_canBe_107 rfl 4 rfl rfl ?_
              refine x_bipush C (v := 62) dX0_canBe_108 (by decide) rfl ?_
              refine x_icmp_ne C (tgt := 128) dX0_canBe_110 (by decide) rfl (fun c42 => ?_) (fun c42 => ?_)
              · skip
                refine x_iload_n C dX0_canBe_128 rfl 4 rfl rfl ?_
                refine x_bipush C (v := 42) dX0_canBe_129 (by decide) rfl ?_
                refine x_icmp_ne C (tgt := 151) dX0_canBe_131 (by decide) rfl (fun c43 => ?_) (fun c43 => ?_)
                · skip
                  refine x_iinc C (v := (nI (jj + 1))) (lv' := [(5, .int (nI (jj + 1))), (6, .int (nI (g21 jj))), (0, .ref (a 87)), (1, .int (nI k)), (2, .ref (a t)), (3, .int (f2 k)), (4, .int (f4 k))]) dX0_canBe_151 6 rfl (nI_add jj 1) (by decide) rfl rfl ?_
                  refine x_goto C (tgt := 73) dX0_canBe_154 (by decide) ?_
                  refine x_lv (lv1 := [(0, .ref (a 87)), (1, .int (nI k)), (2, .ref (a t)), (3, .int (f2 k)), (4, .int (f4 k)), (5, .int (nI (jj + 1)))]) [2, 3, 4, 5, 6, 0] rfl ?_
                  exact ih73 (jj + 1) trivial (by omega) (by omega)
                · skip
                  refine x_aload_n C dX0_canBe_134 rfl 3 rfl rfl ?_
                  refine x_get C (ci := 8) (k := 4) t k24 rfl in_X9 (by decide) w_210 rfl dX0_canBe_135 rfl ?_
                  refine x_get C (ci := 1) (k := 5) (t + 9) k31 rfl in_X1 (by decide) w_141 rfl dX0_canBe_138 rfl ?_
                  refine x_iload C dX0_canBe_141 0 rfl rfl ?_
                  obtain ⟨_, k44, f45, rfl⟩ := hW (t + 14) _ (okX_t ht (j := 14) rfl)
                  refine x_iald C (v := (f45 (nI (g21 jj)).toNatClampNeg)) (t + 14) k44 (vp_in_nI (by omega) (by decide)) rfl dX0_canBe_143 rfl ?_
                  refine x_any (fun v46 => ?_)
                  refine x_bipush C (v := 9) dX0_canBe_144 (by decide) rfl ?_
                  refine x_icmp_lt C (tgt := 151) dX0_canBe_146 (by decide) rfl (fun c47 => ?_) (fun c47 => ?_)
                  · skip
                    refine x_iinc C (v := (nI (jj + 1))) (lv' := [(5, .int (nI (jj + 1))), (6, .int (nI (g21 jj))), (0, .ref (a 87)), (1, .int (nI k)), (2, .ref (a t)), (3, .int (f2 k)), (4, .int (f4 k))]) dX0_canBe_151 6 rfl (nI_add jj 1) (by decide) rfl rfl ?_
                    refine x_goto C (tgt := 73) dX0_canBe_154 (by decide) ?_
                    refine x_lv (lv1 := [(0, .ref (a 87)), (1, .int (nI k)), (2, .ref (a t)), (3, .int (f2 k)), (4, .int (f4 k)), (5, .int (nI (jj + 1)))]) [2, 3, 4, 5, 6, 0] rfl ?_
                    exact ih73 (jj + 1) trivial (by omega) (by omega)
                  · skip
                    refine x_iconst C (v := 0) dX0_canBe_149 (by decide) rfl ?_
                    exact x_zret C hr hlk rfl dX0_canBe_150 ⟨rfl, (Or.inl rfl), (fun q => absurd rfl q)⟩
              · skip
                refine x_aload_n C dX0_canBe_113 rfl 3 rfl rfl ?_
                refine x_get C (ci := 8) (k := 4) t k24 rfl in_X9 (by decide) w_210 rfl dX0_canBe_114 rfl ?_
                refine x_get C (ci := 1) (k := 4) (t + 9) k31 rfl in_X1 (by decide) w_136 rfl dX0_canBe_117 rfl ?_
                refine x_iload C dX0_canBe_120 0 rfl rfl ?_
                obtain ⟨_, k48, g49, gb50, rfl⟩ := hW (t + 13) _ (okX_t ht (j := 13) rfl)
                refine x_ialk C (v := nI (g49 (g21 jj))) (g21 jj) (nI_clamp (by omega)) (nI_pos (by omega)) (by omega) (t + 13) k48 rfl dX0_canBe_122 rfl ?_
                have bx51 := gb50 (g21 jj)
                refine x_iload C dX0_canBe_123 5 rfl rfl ?_
                refine x_icmp_eq C (tgt := 149) dX0_canBe_125 (by decide) rfl (fun c52 => ?_) (fun c52 => ?_)
                · skip
                  refine x_iconst C (v := 0) dX0_canBe_149 (by decide) rfl ?_
                  exact x_zret C hr hlk rfl dX0_canBe_150 ⟨rfl, (Or.inl rfl), (fun q => absurd rfl q)⟩
                · skip
                  refine x_iload_n C dX0_canBe_128 rfl 4 rfl rfl ?_
                  refine x_bipush C (v := 42) dX0_canBe_129 (by decide) rfl ?_
                  refine x_icmp_ne C (tgt := 151) dX0_canBe_131 (by decide) rfl (fun c53 => ?_) (fun c53 => ?_)
                  · skip
                    refine x_iinc C (v := (nI (jj + 1))) (lv' := [(5, .int (nI (jj + 1))), (6, .int (nI (g21 jj))), (0, .ref (a 87)), (1, .int (nI k)), (2, .ref (a t)), (3, .int (f2 k)), (4, .int (f4 k))]) dX0_canBe_151 6 rfl (nI_add jj 1) (by decide) rfl rfl ?_
                    refine x_goto C (tgt := 73) dX0_canBe_154 (by decide) ?_
                    refine x_lv (lv1 := [(0, .ref (a 87)), (1, .int (nI k)), (2, .ref (a t)), (3, .int (f2 k)), (4, .int (f4 k)), (5, .int (nI (jj + 1)))]) [2, 3, 4, 5, 6, 0] rfl ?_
                    exact ih73 (jj + 1) trivial (by omega) (by omega)
                  · skip
                    refine x_aload_n C dX0_canBe_134 rfl 3 rfl rfl ?_
                    refine x_get C (ci := 8) (k := 4) t k24 rfl in_X9 (by decide) w_210 rfl dX0_canBe_135 rfl ?_
                    refine x_get C (ci := 1) (k := 5) (t + 9) k31 rfl in_X1 (by decide) w_141 rfl dX0_canBe_138 rfl ?_
                    refine x_iload C dX0_canBe_141 0 rfl rfl ?_
                    obtain ⟨_, k54, f55, rfl⟩ := hW (t + 14) _ (okX_t ht (j := 14) rfl)
                    refine x_iald C (v := (f55 (nI (g21 jj)).toNatClampNeg)) (t + 14) k54 (vp_in_nI (by omega) (by decide)) rfl dX0_canBe_143 rfl ?_
                    refine x_any (fun v56 => ?_)
                    refine x_bipush C (v := 9) dX0_canBe_144 (by decide) rfl ?_
                    refine x_icmp_lt C (tgt := 151) dX0_canBe_146 (by decide) rfl (fun c57 => ?_) (fun c57 => ?_)
                    · skip
                      refine x_iinc C (v := (nI (jj + 1))) (lv' := [(5, .int (nI (jj + 1))), (6, .int (nI (g21 jj))), (0, .ref (a 87)), (1, .int (nI k)), (2, .ref (a t)), (3, .int (f2 k)), (4, .int (f4 k))]) dX0_canBe_151 6 rfl (nI_add jj 1) (by decide) rfl rfl ?_
                      refine x_goto C (tgt := 73) dX0_canBe_154 (by decide) ?_
                      refine x_lv (lv1 := [(0, .ref (a 87)), (1, .int (nI k)), (2, .ref (a t)), (3, .int (f2 k)), (4, .int (f4 k)), (5, .int (nI (jj + 1)))]) [2, 3, 4, 5, 6, 0] rfl ?_
                      exact ih73 (jj + 1) trivial (by omega) (by omega)
                    · skip
                      refine x_iconst C (v := 0) dX0_canBe_149 (by decide) rfl ?_
                      exact x_zret C hr hlk rfl dX0_canBe_150 ⟨rfl, (Or.inl rfl), (fun q => absurd rfl q)⟩
      refine x_lv (lv1 := [(0, .ref (a 87)), (1, .int (nI k)), (2, .ref (a t)), (3, .int (f2 k)), (4, .int (f4 k)), (5, .int (nI (g13 k)))]) [3, 4, 5, 2, 1, 0] rfl ?_
      exact loop73 _ (g13 k) trivial (Nat.lt_succ_self _) (by omega)
    · skip
      refine x_aload_n C dX0_canBe_39 rfl 4 rfl rfl ?_
      obtain ⟨_, k58, v59, v60, v61, v62, v63, v64, rfl⟩ := hW (t + 0) _ (okX_t ht (j := 0) rfl)
      refine x_get C (ci := 8) (k := 5) t k58 rfl in_X9 (by decide) w_214 rfl dX0_canBe_40 rfl ?_
      refine x_iload C dX0_canBe_43 0 rfl rfl ?_
      obtain ⟨_, k65, v66, rfl⟩ := hW (t + 16) _ (okX_t ht (j := 16) rfl)
      refine x_vi C (As := [.int (f4 k)]) (rest := []) (c_Works_isTold E l a ws hW t ht ((f4 k))) mf_X10_isTold w_701 (t + 16) k65 rfl rfl rfl (Nat.le_of_ble_eq_true rfl) ⟨(Nat.le_of_ble_eq_true rfl), (Nat.le_of_ble_eq_true rfl)⟩ ⟨(Nat.le_of_ble_eq_true rfl), (Nat.le_of_ble_eq_true rfl)⟩ dX0_canBe_45 rfl (fun r68 w69 h67 => ?_)
      obtain ⟨hW70, zb71, x72⟩ := h67
      refine x_ws hW70 ?_
      refine x_if_eq C (tgt := 63) dX0_canBe_48 (by decide) rfl (fun c73 => ?_) (fun c73 => ?_)
      · skip
        refine x_iconst C (v := 0) dX0_canBe_63 (by decide) rfl ?_
        exact x_zret C hr hlk rfl dX0_canBe_64 ⟨rfl, (Or.inl rfl), (fun q => absurd rfl q)⟩
      · skip
        have wt74 := x72 c73
        refine x_aload_n C dX0_canBe_51 rfl 4 rfl rfl ?_
        refine x_get C (ci := 8) (k := 5) t k58 rfl in_X9 (by decide) w_214 rfl dX0_canBe_52 rfl ?_
        refine x_iload C dX0_canBe_55 0 rfl rfl ?_
        refine x_vi C (As := [.int (f4 k)]) (rest := []) (c_Works_isDone E l a ws hW t ht ((f4 k))) mf_X10_isDone w_706 (t + 16) k65 rfl rfl rfl (Nat.le_of_ble_eq_true rfl) ⟨(Nat.le_of_ble_eq_true rfl), (Nat.le_of_ble_eq_true rfl)⟩ ⟨(Nat.le_of_ble_eq_true rfl), (Nat.le_of_ble_eq_true rfl)⟩ dX0_canBe_57 rfl (fun r76 w77 h75 => ?_)
        obtain ⟨hW78, zb79, x80⟩ := h75
        refine x_ws hW78 ?_
        refine x_if_eq C (tgt := 65) dX0_canBe_60 (by decide) rfl (fun c81 => ?_) (fun c81 => ?_)
        · skip
          refine x_aload_n C dX0_canBe_65 rfl 2 rfl rfl ?_
          refine x_get C (ci := 0) (k := 3) 87 k5 rfl in_X0 (by decide) w_298 rfl dX0_canBe_66 rfl ?_
          refine x_iload_n C dX0_canBe_69 rfl 3 rfl rfl ?_
          obtain ⟨_, k82, g83, gb84, rfl⟩ := hW 90 _ rfl
          refine x_ialk C (v := nI (g83 k)) k (nI_clamp (by omega)) (nI_pos (by omega)) (by omega) 90 k82 rfl dX0_canBe_70 rfl ?_
          have bx85 := gb84 k
          refine x_istore C (lv' := [(5, .int (nI (g83 k))), (4, .int (f4 k)), (3, .int (f2 k)), (0, .ref (a 87)), (1, .int (nI k)), (2, .ref (a t))]) dX0_canBe_71 (by decide) rfl rfl ?_
          have loop73 : ∀ (fu73 : Nat) (jj : Nat), True → 140 - jj < fu73 → jj ≤ 140 → X E p l e (xRm 3 0 0) s m ([.ref (a 87), .int (nI k), .ref (a t)] : List Value).toArray below meth c A 7 0 0 (MQ below (va_Qi (fun r w => w = ws ∧ zb r ∧ (¬ r = 0 → tgW ws k)) (xB E A) A) ([.ref (a 87), .int (nI k), .ref (a t)] : List Value).toArray s 0 0 A) ws 73 [(0, .ref (a 87)), (1, .int (nI k)), (2, .ref (a t)), (3, .int (f2 k)), (4, .int (f4 k)), (5, .int (nI jj))] [] := by
            intro fu73
            induction fu73 with
            | zero => intro jj _ q; omega
            | succ fu73 ih73 =>
              intro jj _ me73 iv73_0
              refine x_iload C dX0_canBe_73 5 rfl rfl ?_
              refine x_aload_n C dX0_canBe_75 rfl 0 rfl rfl ?_
              refine x_get C (ci := 0) (k := 3) 87 k5 rfl in_X0 (by decide) w_298 rfl dX0_canBe_76 rfl ?_
              refine x_iload_n C dX0_canBe_79 rfl 1 rfl rfl ?_
              refine x_iconst C (v := 1) dX0_canBe_80 (by decide) rfl ?_
              refine x_iadd C (v := (nI (k + 1))) dX0_canBe_81 (nI_add k 1) rfl ?_
              refine x_ialk C (v := nI (g83 (k + 1))) (k + 1) (nI_clamp (by omega)) (nI_pos (by omega)) (by omega) 90 k82 rfl dX0_canBe_82 rfl ?_
              have bx86 := gb84 (k + 1)
              refine x_icmp_ge C (tgt := 157) dX0_canBe_83 (by decide) rfl (fun c87 => ?_) (fun c87 => ?_)
              · skip
                have nf88 := nI_le' (a := (g83 (k + 1))) (b := jj) c87 (by omega) (by omega)
                refine x_iconst C (v := 1) dX0_canBe_157 (by decide) rfl ?_
                exact x_zret C hr hlk rfl dX0_canBe_158 ⟨rfl, (Or.inr rfl), (fun _ => (tgW_iff k1 k3).mpr (fun q => by first | assumption | (rcases q with q | q <;> first | exact absurd q (by assumption) | assumption)))⟩
              · skip
                have nf89 := nI_nle' (a := (g83 (k + 1))) (b := jj) c87 (by omega) (by omega)
                refine x_aload_n C dX0_canBe_86 rfl 0 rfl rfl ?_
                refine x_get C (ci := 0) (k := 4) 87 k5 rfl in_X0 (by decide) w_299 rfl dX0_canBe_87 rfl ?_
                refine x_iload C dX0_canBe_90 5 rfl rfl ?_
                obtain ⟨_, k90, g91, gb92, rfl⟩ := hW 91 _ rfl
                refine x_ialk C (v := nI (g91 jj)) jj (nI_clamp (by omega)) (nI_pos (by omega)) (by omega) 91 k90 rfl dX0_canBe_92 rfl ?_
                have bx93 := gb92 jj
                refine x_istore C (lv' := [(6, .int (nI (g91 jj))), (0, .ref (a 87)), (1, .int (nI k)), (2, .ref (a t)), (3, .int (f2 k)), (4, .int (f4 k)), (5, .int (nI jj))]) dX0_canBe_93 (by decide) rfl rfl ?_
                refine x_aload_n C dX0_canBe_95 rfl 3 rfl rfl ?_
                refine x_get C (ci := 8) (k := 4) t k58 rfl in_X9 (by decide) w_210 rfl dX0_canBe_96 rfl ?_
                refine x_iload C dX0_canBe_99 0 rfl rfl ?_
                obtain ⟨_, k94, n95, bn96, rfl⟩ := hW (t + 9) _ (okX_t ht (j := 9) rfl)
                refine x_vi C (As := [.int (nI (g91 jj))]) (rest := []) (c_Eggs_isWhole E l a ws hW t ht ((nI (g91 jj)))) mf_X1_isWhole w_711 (t + 9) k94 rfl rfl rfl (Nat.le_of_ble_eq_true rfl) ⟨(Nat.le_of_ble_eq_true rfl), (Nat.le_of_ble_eq_true rfl)⟩ ⟨(Nat.le_of_ble_eq_true rfl), (Nat.le_of_ble_eq_true rfl)⟩ dX0_canBe_101 rfl (fun r98 w99 h97 => ?_)
                obtain ⟨hW100, zb101, x102⟩ := h97
                refine x_ws hW100 ?_
                refine x_if_eq C (tgt := 149) dX0_canBe_104 (by decide) rfl (fun c103 => ?_) (fun c103 => ?_)
                · skip
                  refine x_iconst C (v := 0) dX0_canBe_149 (by decide) rfl ?_
                  exact x_zret C hr hlk rfl dX0_canBe_150 ⟨rfl, (Or.inl rfl), (fun q => absurd rfl q)⟩
                · skip
                  have wi104 := wth_le (a := 0) (b := 47) (j := (g91 jj)) (x102 c103) (by omega) (by decide) (by decide)
                  refine x_iload_n C dX0_canBe_107 rfl 4 rfl rfl ?_
                  refine x_bipush C (v := 62) dX0_canBe_108 (by decide) rfl ?_
                  refine x_icmp_ne C (tgt := 128) dX0_canBe_110 (by decide) rfl (fun c105 => ?_) (fun c105 => ?_)
                  · skip
                    refine x_iload_n C dX0_canBe_128 rfl 4 rfl rfl ?_
                    refine x_bipush C (v := 42) dX0_canBe_129 (by decide) rfl ?_
                    refine x_icmp_ne C (tgt := 151) dX0_canBe_131 (by decide) rfl (fun c106 => ?_) (fun c106 => ?_)
                    · skip
                      refine x_iinc C (v := (nI (jj + 1))) (lv' := [(5, .int (nI (jj + 1))), (6, .int (nI (g91 jj))), (0, .ref (a 87)), (1, .int (nI k)), (2, .ref (a t)), (3, .int (f2 k)), (4, .int (f4 k))]) dX0_canBe_151 6 rfl (nI_add jj 1) (by decide) rfl rfl ?_
                      refine x_goto C (tgt := 73) dX0_canBe_154 (by decide) ?_
                      refine x_lv (lv1 := [(0, .ref (a 87)), (1, .int (nI k)), (2, .ref (a t)), (3, .int (f2 k)), (4, .int (f4 k)), (5, .int (nI (jj + 1)))]) [2, 3, 4, 5, 6, 0] rfl ?_
                      exact ih73 (jj + 1) trivial (by omega) (by omega)
                    · skip
                      refine x_aload_n C dX0_canBe_134 rfl 3 rfl rfl ?_
                      refine x_get C (ci := 8) (k := 4) t k58 rfl in_X9 (by decide) w_210 rfl dX0_canBe_135 rfl ?_
                      refine x_get C (ci := 1) (k := 5) (t + 9) k94 rfl in_X1 (by decide) w_141 rfl dX0_canBe_138 rfl ?_
                      refine x_iload C dX0_canBe_141 0 rfl rfl ?_
                      obtain ⟨_, k107, f108, rfl⟩ := hW (t + 14) _ (okX_t ht (j := 14) rfl)
                      refine x_iald C (v := (f108 (nI (g91 jj)).toNatClampNeg)) (t + 14) k107 (vp_in_nI (by omega) (by decide)) rfl dX0_canBe_143 rfl ?_
                      refine x_any (fun v109 => ?_)
                      refine x_bipush C (v := 9) dX0_canBe_144 (by decide) rfl ?_
                      refine x_icmp_lt C (tgt := 151) dX0_canBe_146 (by decide) rfl (fun c110 => ?_) (fun c110 => ?_)
                      · skip
                        refine x_iinc C (v := (nI (jj + 1))) (lv' := [(5, .int (nI (jj + 1))), (6, .int (nI (g91 jj))), (0, .ref (a 87)), (1, .int (nI k)), (2, .ref (a t)), (3, .int (f2 k)), (4, .int (f4 k))]) dX0_canBe_151 6 rfl (nI_add jj 1) (by decide) rfl rfl ?_
                        refine x_goto C (tgt := 73) dX0_canBe_154 (by decide) ?_
                        refine x_lv (lv1 := [(0, .ref (a 87)), (1, .int (nI k)), (2, .ref (a t)), (3, .int (f2 k)), (4, .int (f4 k)), (5, .int (nI (jj + 1)))]) [2, 3, 4, 5, 6, 0] rfl ?_
                        exact ih73 (jj + 1) trivial (by omega) (by omega)
                      · skip
                        refine x_iconst C (v := 0) dX0_canBe_149 (by decide) rfl ?_
                        exact x_zret C hr hlk rfl dX0_canBe_150 ⟨rfl, (Or.inl rfl), (fun q => absurd rfl q)⟩
                  · skip
                    refine x_aload_n C dX0_canBe_113 rfl 3 rfl rfl ?_
                    refine x_get C (ci := 8) (k := 4) t k58 rfl in_X9 (by decide) w_210 rfl dX0_canBe_114 rfl ?_
                    refine x_get C (ci := 1) (k := 4) (t + 9) k94 rfl in_X1 (by decide) w_136 rfl dX0_canBe_117 rfl ?_
                    refine x_iload C dX0_canBe_120 0 rfl rfl ?_
                    obtain ⟨_, k111, g112, gb113, rfl⟩ := hW (t + 13) _ (okX_t ht (j := 13) rfl)
                    refine x_ialk C (v := nI (g112 (g91 jj))) (g91 jj) (nI_clamp (by omega)) (nI_pos (by omega)) (by omega) (t + 13) k111 rfl dX0_canBe_122 rfl ?_
                    have bx114 := gb113 (g91 jj)
                    refine x_iload C dX0_canBe_123 5 rfl rfl ?_
                    refine x_icmp_eq C (tgt := 149) dX0_canBe_125 (by decide) rfl (fun c115 => ?_) (fun c115 => ?_)
                    · skip
                      refine x_iconst C (v := 0) dX0_canBe_149 (by decide) rfl ?_
                      exact x_zret C hr hlk rfl dX0_canBe_150 ⟨rfl, (Or.inl rfl), (fun q => absurd rfl q)⟩
                    · skip
                      refine x_iload_n C dX0_canBe_128 rfl 4 rfl rfl ?_
                      refine x_bipush C (v := 42) dX0_canBe_129 (by decide) rfl ?_
                      refine x_icmp_ne C (tgt := 151) dX0_canBe_131 (by decide) rfl (fun c116 => ?_) (fun c116 => ?_)
                      · skip
                        refine x_iinc C (v := (nI (jj + 1))) (lv' := [(5, .int (nI (jj + 1))), (6, .int (nI (g91 jj))), (0, .ref (a 87)), (1, .int (nI k)), (2, .ref (a t)), (3, .int (f2 k)), (4, .int (f4 k))]) dX0_canBe_151 6 rfl (nI_add jj 1) (by decide) rfl rfl ?_
                        refine x_goto C (tgt := 73) dX0_canBe_154 (by decide) ?_
                        refine x_lv (lv1 := [(0, .ref (a 87)), (1, .int (nI k)), (2, .ref (a t)), (3, .int (f2 k)), (4, .int (f4 k)), (5, .int (nI (jj + 1)))]) [2, 3, 4, 5, 6, 0] rfl ?_
                        exact ih73 (jj + 1) trivial (by omega) (by omega)
                      · skip
                        refine x_aload_n C dX0_canBe_134 rfl 3 rfl rfl ?_
                        refine x_get C (ci := 8) (k := 4) t k58 rfl in_X9 (by decide) w_210 rfl dX0_canBe_135 rfl ?_
                        refine x_get C (ci := 1) (k := 5) (t + 9) k94 rfl in_X1 (by decide) w_141 rfl dX0_canBe_138 rfl ?_
                        refine x_iload C dX0_canBe_141 0 rfl rfl ?_
                        obtain ⟨_, k117, f118, rfl⟩ := hW (t + 14) _ (okX_t ht (j := 14) rfl)
                        refine x_iald C (v := (f118 (nI (g91 jj)).toNatClampNeg)) (t + 14) k117 (vp_in_nI (by omega) (by decide)) rfl dX0_canBe_143 rfl ?_
                        refine x_any (fun v119 => ?_)
                        refine x_bipush C (v := 9) dX0_canBe_144 (by decide) rfl ?_
                        refine x_icmp_lt C (tgt := 151) dX0_canBe_146 (by decide) rfl (fun c120 => ?_) (fun c120 => ?_)
                        · skip
                          refine x_iinc C (v := (nI (jj + 1))) (lv' := [(5, .int (nI (jj + 1))), (6, .int (nI (g91 jj))), (0, .ref (a 87)), (1, .int (nI k)), (2, .ref (a t)), (3, .int (f2 k)), (4, .int (f4 k))]) dX0_canBe_151 6 rfl (nI_add jj 1) (by decide) rfl rfl ?_
                          refine x_goto C (tgt := 73) dX0_canBe_154 (by decide) ?_
                          refine x_lv (lv1 := [(0, .ref (a 87)), (1, .int (nI k)), (2, .ref (a t)), (3, .int (f2 k)), (4, .int (f4 k)), (5, .int (nI (jj + 1)))]) [2, 3, 4, 5, 6, 0] rfl ?_
                          exact ih73 (jj + 1) trivial (by omega) (by omega)
                        · skip
                          refine x_iconst C (v := 0) dX0_canBe_149 (by decide) rfl ?_
                          exact x_zret C hr hlk rfl dX0_canBe_150 ⟨rfl, (Or.inl rfl), (fun q => absurd rfl q)⟩
          refine x_lv (lv1 := [(0, .ref (a 87)), (1, .int (nI k)), (2, .ref (a t)), (3, .int (f2 k)), (4, .int (f4 k)), (5, .int (nI (g83 k)))]) [3, 4, 5, 2, 1, 0] rfl ?_
          exact loop73 _ (g83 k) trivial (Nat.lt_succ_self _) (by omega)
        · skip
          refine x_iconst C (v := 0) dX0_canBe_63 (by decide) rfl ?_
          exact x_zret C hr hlk rfl dX0_canBe_64 ⟨rfl, (Or.inl rfl), (fun q => absurd rfl q)⟩
  · skip
    refine x_aload_n C dX0_canBe_21 rfl 4 rfl rfl ?_
    obtain ⟨_, k121, v122, v123, v124, v125, v126, v127, rfl⟩ := hW (t + 0) _ (okX_t ht (j := 0) rfl)
    refine x_get C (ci := 8) (k := 3) t k121 rfl in_X9 (by decide) w_205 rfl dX0_canBe_22 rfl ?_
    refine x_iload C dX0_canBe_25 0 rfl rfl ?_
    obtain ⟨_, k128, v129, rfl⟩ := hW (t + 4) _ (okX_t ht (j := 4) rfl)
    refine x_vi C (As := [.int (f4 k)]) (rest := []) (c_People_isTold E l a ws hW t ht ((f4 k))) mf_X5_isTold w_700 (t + 4) k128 rfl rfl rfl (Nat.le_of_ble_eq_true rfl) ⟨(Nat.le_of_ble_eq_true rfl), (Nat.le_of_ble_eq_true rfl)⟩ ⟨(Nat.le_of_ble_eq_true rfl), (Nat.le_of_ble_eq_true rfl)⟩ dX0_canBe_27 rfl (fun r131 w132 h130 => ?_)
    obtain ⟨hW133, zb134, x135⟩ := h130
    refine x_ws hW133 ?_
    refine x_if_eq C (tgt := 63) dX0_canBe_30 (by decide) rfl (fun c136 => ?_) (fun c136 => ?_)
    · skip
      refine x_iconst C (v := 0) dX0_canBe_63 (by decide) rfl ?_
      exact x_zret C hr hlk rfl dX0_canBe_64 ⟨rfl, (Or.inl rfl), (fun q => absurd rfl q)⟩
    · skip
      have wt137 := x135 c136
      refine x_iload_n C dX0_canBe_33 rfl 1 rfl rfl ?_
      refine x_bipush C (v := 33) dX0_canBe_34 (by decide) rfl ?_
      refine x_icmp_ne C (tgt := 65) dX0_canBe_36 (by decide) rfl (fun c138 => ?_) (fun c138 => ?_)
      · skip
        refine x_aload_n C dX0_canBe_65 rfl 2 rfl rfl ?_
        refine x_get C (ci := 0) (k := 3) 87 k5 rfl in_X0 (by decide) w_298 rfl dX0_canBe_66 rfl ?_
        refine x_iload_n C dX0_canBe_69 rfl 3 rfl rfl ?_
        obtain ⟨_, k139, g140, gb141, rfl⟩ := hW 90 _ rfl
        refine x_ialk C (v := nI (g140 k)) k (nI_clamp (by omega)) (nI_pos (by omega)) (by omega) 90 k139 rfl dX0_canBe_70 rfl ?_
        have bx142 := gb141 k
        refine x_istore C (lv' := [(5, .int (nI (g140 k))), (4, .int (f4 k)), (3, .int (f2 k)), (0, .ref (a 87)), (1, .int (nI k)), (2, .ref (a t))]) dX0_canBe_71 (by decide) rfl rfl ?_
        have loop73 : ∀ (fu73 : Nat) (jj : Nat), True → 140 - jj < fu73 → jj ≤ 140 → X E p l e (xRm 3 0 0) s m ([.ref (a 87), .int (nI k), .ref (a t)] : List Value).toArray below meth c A 7 0 0 (MQ below (va_Qi (fun r w => w = ws ∧ zb r ∧ (¬ r = 0 → tgW ws k)) (xB E A) A) ([.ref (a 87), .int (nI k), .ref (a t)] : List Value).toArray s 0 0 A) ws 73 [(0, .ref (a 87)), (1, .int (nI k)), (2, .ref (a t)), (3, .int (f2 k)), (4, .int (f4 k)), (5, .int (nI jj))] [] := by
          intro fu73
          induction fu73 with
          | zero => intro jj _ q; omega
          | succ fu73 ih73 =>
            intro jj _ me73 iv73_0
            refine x_iload C dX0_canBe_73 5 rfl rfl ?_
            refine x_aload_n C dX0_canBe_75 rfl 0 rfl rfl ?_
            refine x_get C (ci := 0) (k := 3) 87 k5 rfl in_X0 (by decide) w_298 rfl dX0_canBe_76 rfl ?_
            refine x_iload_n C dX0_canBe_79 rfl 1 rfl rfl ?_
            refine x_iconst C (v := 1) dX0_canBe_80 (by decide) rfl ?_
            refine x_iadd C (v := (nI (k + 1))) dX0_canBe_81 (nI_add k 1) rfl ?_
            refine x_ialk C (v := nI (g140 (k + 1))) (k + 1) (nI_clamp (by omega)) (nI_pos (by omega)) (by omega) 90 k139 rfl dX0_canBe_82 rfl ?_
            have bx143 := gb141 (k + 1)
            refine x_icmp_ge C (tgt := 157) dX0_canBe_83 (by decide) rfl (fun c144 => ?_) (fun c144 => ?_)
            · skip
              have nf145 := nI_le' (a := (g140 (k + 1))) (b := jj) c144 (by omega) (by omega)
              refine x_iconst C (v := 1) dX0_canBe_157 (by decide) rfl ?_
              exact x_zret C hr hlk rfl dX0_canBe_158 ⟨rfl, (Or.inr rfl), (fun _ => (tgW_iff k1 k3).mpr (fun q => by first | assumption | (rcases q with q | q <;> first | exact absurd q (by assumption) | assumption)))⟩
            · skip
              have nf146 := nI_nle' (a := (g140 (k + 1))) (b := jj) c144 (by omega) (by omega)
              refine x_aload_n C dX0_canBe_86 rfl 0 rfl rfl ?_
              refine x_get C (ci := 0) (k := 4) 87 k5 rfl in_X0 (by decide) w_299 rfl dX0_canBe_87 rfl ?_
              refine x_iload C dX0_canBe_90 5 rfl rfl ?_
              obtain ⟨_, k147, g148, gb149, rfl⟩ := hW 91 _ rfl
              refine x_ialk C (v := nI (g148 jj)) jj (nI_clamp (by omega)) (nI_pos (by omega)) (by omega) 91 k147 rfl dX0_canBe_92 rfl ?_
              have bx150 := gb149 jj
              refine x_istore C (lv' := [(6, .int (nI (g148 jj))), (0, .ref (a 87)), (1, .int (nI k)), (2, .ref (a t)), (3, .int (f2 k)), (4, .int (f4 k)), (5, .int (nI jj))]) dX0_canBe_93 (by decide) rfl rfl ?_
              refine x_aload_n C dX0_canBe_95 rfl 3 rfl rfl ?_
              refine x_get C (ci := 8) (k := 4) t k121 rfl in_X9 (by decide) w_210 rfl dX0_canBe_96 rfl ?_
              refine x_iload C dX0_canBe_99 0 rfl rfl ?_
              obtain ⟨_, k151, n152, bn153, rfl⟩ := hW (t + 9) _ (okX_t ht (j := 9) rfl)
              refine x_vi C (As := [.int (nI (g148 jj))]) (rest := []) (c_Eggs_isWhole E l a ws hW t ht ((nI (g148 jj)))) mf_X1_isWhole w_711 (t + 9) k151 rfl rfl rfl (Nat.le_of_ble_eq_true rfl) ⟨(Nat.le_of_ble_eq_true rfl), (Nat.le_of_ble_eq_true rfl)⟩ ⟨(Nat.le_of_ble_eq_true rfl), (Nat.le_of_ble_eq_true rfl)⟩ dX0_canBe_101 rfl (fun r155 w156 h154 => ?_)
              obtain ⟨hW157, zb158, x159⟩ := h154
              refine x_ws hW157 ?_
              refine x_if_eq C (tgt := 149) dX0_canBe_104 (by decide) rfl (fun c160 => ?_) (fun c160 => ?_)
              · skip
                refine x_iconst C (v := 0) dX0_canBe_149 (by decide) rfl ?_
                exact x_zret C hr hlk rfl dX0_canBe_150 ⟨rfl, (Or.inl rfl), (fun q => absurd rfl q)⟩
              · skip
                have wi161 := wth_le (a := 0) (b := 47) (j := (g148 jj)) (x159 c160) (by omega) (by decide) (by decide)
                refine x_iload_n C dX0_canBe_107 rfl 4 rfl rfl ?_
                refine x_bipush C (v := 62) dX0_canBe_108 (by decide) rfl ?_
                refine x_icmp_ne C (tgt := 128) dX0_canBe_110 (by decide) rfl (fun c162 => ?_) (fun c162 => ?_)
                · skip
                  refine x_iload_n C dX0_canBe_128 rfl 4 rfl rfl ?_
                  refine x_bipush C (v := 42) dX0_canBe_129 (by decide) rfl ?_
                  refine x_icmp_ne C (tgt := 151) dX0_canBe_131 (by decide) rfl (fun c163 => ?_) (fun c163 => ?_)
                  · skip
                    refine x_iinc C (v := (nI (jj + 1))) (lv' := [(5, .int (nI (jj + 1))), (6, .int (nI (g148 jj))), (0, .ref (a 87)), (1, .int (nI k)), (2, .ref (a t)), (3, .int (f2 k)), (4, .int (f4 k))]) dX0_canBe_151 6 rfl (nI_add jj 1) (by decide) rfl rfl ?_
                    refine x_goto C (tgt := 73) dX0_canBe_154 (by decide) ?_
                    refine x_lv (lv1 := [(0, .ref (a 87)), (1, .int (nI k)), (2, .ref (a t)), (3, .int (f2 k)), (4, .int (f4 k)), (5, .int (nI (jj + 1)))]) [2, 3, 4, 5, 6, 0] rfl ?_
                    exact ih73 (jj + 1) trivial (by omega) (by omega)
                  · skip
                    refine x_aload_n C dX0_canBe_134 rfl 3 rfl rfl ?_
                    refine x_get C (ci := 8) (k := 4) t k121 rfl in_X9 (by decide) w_210 rfl dX0_canBe_135 rfl ?_
                    refine x_get C (ci := 1) (k := 5) (t + 9) k151 rfl in_X1 (by decide) w_141 rfl dX0_canBe_138 rfl ?_
                    refine x_iload C dX0_canBe_141 0 rfl rfl ?_
                    obtain ⟨_, k164, f165, rfl⟩ := hW (t + 14) _ (okX_t ht (j := 14) rfl)
                    refine x_iald C (v := (f165 (nI (g148 jj)).toNatClampNeg)) (t + 14) k164 (vp_in_nI (by omega) (by decide)) rfl dX0_canBe_143 rfl ?_
                    refine x_any (fun v166 => ?_)
                    refine x_bipush C (v := 9) dX0_canBe_144 (by decide) rfl ?_
                    refine x_icmp_lt C (tgt := 151) dX0_canBe_146 (by decide) rfl (fun c167 => ?_) (fun c167 => ?_)
                    · skip
                      refine x_iinc C (v := (nI (jj + 1))) (lv' := [(5, .int (nI (jj + 1))), (6, .int (nI (g148 jj))), (0, .ref (a 87)), (1, .int (nI k)), (2, .ref (a t)), (3, .int (f2 k)), (4, .int (f4 k))]) dX0_canBe_151 6 rfl (nI_add jj 1) (by decide) rfl rfl ?_
                      refine x_goto C (tgt := 73) dX0_canBe_154 (by decide) ?_
                      refine x_lv (lv1 := [(0, .ref (a 87)), (1, .int (nI k)), (2, .ref (a t)), (3, .int (f2 k)), (4, .int (f4 k)), (5, .int (nI (jj + 1)))]) [2, 3, 4, 5, 6, 0] rfl ?_
                      exact ih73 (jj + 1) trivial (by omega) (by omega)
                    · skip
                      refine x_iconst C (v := 0) dX0_canBe_149 (by decide) rfl ?_
                      exact x_zret C hr hlk rfl dX0_canBe_150 ⟨rfl, (Or.inl rfl), (fun q => absurd rfl q)⟩
                · skip
                  refine x_aload_n C dX0_canBe_113 rfl 3 rfl rfl ?_
                  refine x_get C (ci := 8) (k := 4) t k121 rfl in_X9 (by decide) w_210 rfl dX0_canBe_114 rfl ?_
                  refine x_get C (ci := 1) (k := 4) (t + 9) k151 rfl in_X1 (by decide) w_136 rfl dX0_canBe_117 rfl ?_
                  refine x_iload C dX0_canBe_120 0 rfl rfl ?_
                  obtain ⟨_, k168, g169, gb170, rfl⟩ := hW (t + 13) _ (okX_t ht (j := 13) rfl)
                  refine x_ialk C (v := nI (g169 (g148 jj))) (g148 jj) (nI_clamp (by omega)) (nI_pos (by omega)) (by omega) (t + 13) k168 rfl dX0_canBe_122 rfl ?_
                  have bx171 := gb170 (g148 jj)
                  refine x_iload C dX0_canBe_123 5 rfl rfl ?_
                  refine x_icmp_eq C (tgt := 149) dX0_canBe_125 (by decide) rfl (fun c172 => ?_) (fun c172 => ?_)
                  · skip
                    refine x_iconst C (v := 0) dX0_canBe_149 (by decide) rfl ?_
                    exact x_zret C hr hlk rfl dX0_canBe_150 ⟨rfl, (Or.inl rfl), (fun q => absurd rfl q)⟩
                  · skip
                    refine x_iload_n C dX0_canBe_128 rfl 4 rfl rfl ?_
                    refine x_bipush C (v := 42) dX0_canBe_129 (by decide) rfl ?_
                    refine x_icmp_ne C (tgt := 151) dX0_canBe_131 (by decide) rfl (fun c173 => ?_) (fun c173 => ?_)
                    · skip
                      refine x_iinc C (v := (nI (jj + 1))) (lv' := [(5, .int (nI (jj + 1))), (6, .int (nI (g148 jj))), (0, .ref (a 87)), (1, .int (nI k)), (2, .ref (a t)), (3, .int (f2 k)), (4, .int (f4 k))]) dX0_canBe_151 6 rfl (nI_add jj 1) (by decide) rfl rfl ?_
                      refine x_goto C (tgt := 73) dX0_canBe_154 (by decide) ?_
                      refine x_lv (lv1 := [(0, .ref (a 87)), (1, .int (nI k)), (2, .ref (a t)), (3, .int (f2 k)), (4, .int (f4 k)), (5, .int (nI (jj + 1)))]) [2, 3, 4, 5, 6, 0] rfl ?_
                      exact ih73 (jj + 1) trivial (by omega) (by omega)
                    · skip
                      refine x_aload_n C dX0_canBe_134 rfl 3 rfl rfl ?_
                      refine x_get C (ci := 8) (k := 4) t k121 rfl in_X9 (by decide) w_210 rfl dX0_canBe_135 rfl ?_
                      refine x_get C (ci := 1) (k := 5) (t + 9) k151 rfl in_X1 (by decide) w_141 rfl dX0_canBe_138 rfl ?_
                      refine x_iload C dX0_canBe_141 0 rfl rfl ?_
                      obtain ⟨_, k174, f175, rfl⟩ := hW (t + 14) _ (okX_t ht (j := 14) rfl)
                      refine x_iald C (v := (f175 (nI (g148 jj)).toNatClampNeg)) (t + 14) k174 (vp_in_nI (by omega) (by decide)) rfl dX0_canBe_143 rfl ?_
                      refine x_any (fun v176 => ?_)
                      refine x_bipush C (v := 9) dX0_canBe_144 (by decide) rfl ?_
                      refine x_icmp_lt C (tgt := 151) dX0_canBe_146 (by decide) rfl (fun c177 => ?_) (fun c177 => ?_)
                      · skip
                        refine x_iinc C (v := (nI (jj + 1))) (lv' := [(5, .int (nI (jj + 1))), (6, .int (nI (g148 jj))), (0, .ref (a 87)), (1, .int (nI k)), (2, .ref (a t)), (3, .int (f2 k)), (4, .int (f4 k))]) dX0_canBe_151 6 rfl (nI_add jj 1) (by decide) rfl rfl ?_
                        refine x_goto C (tgt := 73) dX0_canBe_154 (by decide) ?_
                        refine x_lv (lv1 := [(0, .ref (a 87)), (1, .int (nI k)), (2, .ref (a t)), (3, .int (f2 k)), (4, .int (f4 k)), (5, .int (nI (jj + 1)))]) [2, 3, 4, 5, 6, 0] rfl ?_
                        exact ih73 (jj + 1) trivial (by omega) (by omega)
                      · skip
                        refine x_iconst C (v := 0) dX0_canBe_149 (by decide) rfl ?_
                        exact x_zret C hr hlk rfl dX0_canBe_150 ⟨rfl, (Or.inl rfl), (fun q => absurd rfl q)⟩
        refine x_lv (lv1 := [(0, .ref (a 87)), (1, .int (nI k)), (2, .ref (a t)), (3, .int (f2 k)), (4, .int (f4 k)), (5, .int (nI (g140 k)))]) [3, 4, 5, 2, 1, 0] rfl ?_
        exact loop73 _ (g140 k) trivial (Nat.lt_succ_self _) (by omega)
      · skip
        refine x_aload_n C dX0_canBe_39 rfl 4 rfl rfl ?_
        refine x_get C (ci := 8) (k := 5) t k121 rfl in_X9 (by decide) w_214 rfl dX0_canBe_40 rfl ?_
        refine x_iload C dX0_canBe_43 0 rfl rfl ?_
        obtain ⟨_, k178, v179, rfl⟩ := hW (t + 16) _ (okX_t ht (j := 16) rfl)
        refine x_vi C (As := [.int (f4 k)]) (rest := []) (c_Works_isTold E l a ws hW t ht ((f4 k))) mf_X10_isTold w_701 (t + 16) k178 rfl rfl rfl (Nat.le_of_ble_eq_true rfl) ⟨(Nat.le_of_ble_eq_true rfl), (Nat.le_of_ble_eq_true rfl)⟩ ⟨(Nat.le_of_ble_eq_true rfl), (Nat.le_of_ble_eq_true rfl)⟩ dX0_canBe_45 rfl (fun r181 w182 h180 => ?_)
        obtain ⟨hW183, zb184, x185⟩ := h180
        refine x_ws hW183 ?_
        refine x_if_eq C (tgt := 63) dX0_canBe_48 (by decide) rfl (fun c186 => ?_) (fun c186 => ?_)
        · skip
          refine x_iconst C (v := 0) dX0_canBe_63 (by decide) rfl ?_
          exact x_zret C hr hlk rfl dX0_canBe_64 ⟨rfl, (Or.inl rfl), (fun q => absurd rfl q)⟩
        · skip
          have wt187 := x185 c186
          refine x_aload_n C dX0_canBe_51 rfl 4 rfl rfl ?_
          refine x_get C (ci := 8) (k := 5) t k121 rfl in_X9 (by decide) w_214 rfl dX0_canBe_52 rfl ?_
          refine x_iload C dX0_canBe_55 0 rfl rfl ?_
          refine x_vi C (As := [.int (f4 k)]) (rest := []) (c_Works_isDone E l a ws hW t ht ((f4 k))) mf_X10_isDone w_706 (t + 16) k178 rfl rfl rfl (Nat.le_of_ble_eq_true rfl) ⟨(Nat.le_of_ble_eq_true rfl), (Nat.le_of_ble_eq_true rfl)⟩ ⟨(Nat.le_of_ble_eq_true rfl), (Nat.le_of_ble_eq_true rfl)⟩ dX0_canBe_57 rfl (fun r189 w190 h188 => ?_)
          obtain ⟨hW191, zb192, x193⟩ := h188
          refine x_ws hW191 ?_
          refine x_if_eq C (tgt := 65) dX0_canBe_60 (by decide) rfl (fun c194 => ?_) (fun c194 => ?_)
          · skip
            refine x_aload_n C dX0_canBe_65 rfl 2 rfl rfl ?_
            refine x_get C (ci := 0) (k := 3) 87 k5 rfl in_X0 (by decide) w_298 rfl dX0_canBe_66 rfl ?_
            refine x_iload_n C dX0_canBe_69 rfl 3 rfl rfl ?_
            obtain ⟨_, k195, g196, gb197, rfl⟩ := hW 90 _ rfl
            refine x_ialk C (v := nI (g196 k)) k (nI_clamp (by omega)) (nI_pos (by omega)) (by omega) 90 k195 rfl dX0_canBe_70 rfl ?_
            have bx198 := gb197 k
            refine x_istore C (lv' := [(5, .int (nI (g196 k))), (4, .int (f4 k)), (3, .int (f2 k)), (0, .ref (a 87)), (1, .int (nI k)), (2, .ref (a t))]) dX0_canBe_71 (by decide) rfl rfl ?_
            have loop73 : ∀ (fu73 : Nat) (jj : Nat), True → 140 - jj < fu73 → jj ≤ 140 → X E p l e (xRm 3 0 0) s m ([.ref (a 87), .int (nI k), .ref (a t)] : List Value).toArray below meth c A 7 0 0 (MQ below (va_Qi (fun r w => w = ws ∧ zb r ∧ (¬ r = 0 → tgW ws k)) (xB E A) A) ([.ref (a 87), .int (nI k), .ref (a t)] : List Value).toArray s 0 0 A) ws 73 [(0, .ref (a 87)), (1, .int (nI k)), (2, .ref (a t)), (3, .int (f2 k)), (4, .int (f4 k)), (5, .int (nI jj))] [] := by
              intro fu73
              induction fu73 with
              | zero => intro jj _ q; omega
              | succ fu73 ih73 =>
                intro jj _ me73 iv73_0
                refine x_iload C dX0_canBe_73 5 rfl rfl ?_
                refine x_aload_n C dX0_canBe_75 rfl 0 rfl rfl ?_
                refine x_get C (ci := 0) (k := 3) 87 k5 rfl in_X0 (by decide) w_298 rfl dX0_canBe_76 rfl ?_
                refine x_iload_n C dX0_canBe_79 rfl 1 rfl rfl ?_
                refine x_iconst C (v := 1) dX0_canBe_80 (by decide) rfl ?_
                refine x_iadd C (v := (nI (k + 1))) dX0_canBe_81 (nI_add k 1) rfl ?_
                refine x_ialk C (v := nI (g196 (k + 1))) (k + 1) (nI_clamp (by omega)) (nI_pos (by omega)) (by omega) 90 k195 rfl dX0_canBe_82 rfl ?_
                have bx199 := gb197 (k + 1)
                refine x_icmp_ge C (tgt := 157) dX0_canBe_83 (by decide) rfl (fun c200 => ?_) (fun c200 => ?_)
                · skip
                  have nf201 := nI_le' (a := (g196 (k + 1))) (b := jj) c200 (by omega) (by omega)
                  refine x_iconst C (v := 1) dX0_canBe_157 (by decide) rfl ?_
                  exact x_zret C hr hlk rfl dX0_canBe_158 ⟨rfl, (Or.inr rfl), (fun _ => (tgW_iff k1 k3).mpr (fun q => by first | assumption | (rcases q with q | q <;> first | exact absurd q (by assumption) | assumption)))⟩
                · skip
                  have nf202 := nI_nle' (a := (g196 (k + 1))) (b := jj) c200 (by omega) (by omega)
                  refine x_aload_n C dX0_canBe_86 rfl 0 rfl rfl ?_
                  refine x_get C (ci := 0) (k := 4) 87 k5 rfl in_X0 (by decide) w_299 rfl dX0_canBe_87 rfl ?_
                  refine x_iload C dX0_canBe_90 5 rfl rfl ?_
                  obtain ⟨_, k203, g204, gb205, rfl⟩ := hW 91 _ rfl
                  refine x_ialk C (v := nI (g204 jj)) jj (nI_clamp (by omega)) (nI_pos (by omega)) (by omega) 91 k203 rfl dX0_canBe_92 rfl ?_
                  have bx206 := gb205 jj
                  refine x_istore C (lv' := [(6, .int (nI (g204 jj))), (0, .ref (a 87)), (1, .int (nI k)), (2, .ref (a t)), (3, .int (f2 k)), (4, .int (f4 k)), (5, .int (nI jj))]) dX0_canBe_93 (by decide) rfl rfl ?_
                  refine x_aload_n C dX0_canBe_95 rfl 3 rfl rfl ?_
                  refine x_get C (ci := 8) (k := 4) t k121 rfl in_X9 (by decide) w_210 rfl dX0_canBe_96 rfl ?_
                  refine x_iload C dX0_canBe_99 0 rfl rfl ?_
                  obtain ⟨_, k207, n208, bn209, rfl⟩ := hW (t + 9) _ (okX_t ht (j := 9) rfl)
                  refine x_vi C (As := [.int (nI (g204 jj))]) (rest := []) (c_Eggs_isWhole E l a ws hW t ht ((nI (g204 jj)))) mf_X1_isWhole w_711 (t + 9) k207 rfl rfl rfl (Nat.le_of_ble_eq_true rfl) ⟨(Nat.le_of_ble_eq_true rfl), (Nat.le_of_ble_eq_true rfl)⟩ ⟨(Nat.le_of_ble_eq_true rfl), (Nat.le_of_ble_eq_true rfl)⟩ dX0_canBe_101 rfl (fun r211 w212 h210 => ?_)
                  obtain ⟨hW213, zb214, x215⟩ := h210
                  refine x_ws hW213 ?_
                  refine x_if_eq C (tgt := 149) dX0_canBe_104 (by decide) rfl (fun c216 => ?_) (fun c216 => ?_)
                  · skip
                    refine x_iconst C (v := 0) dX0_canBe_149 (by decide) rfl ?_
                    exact x_zret C hr hlk rfl dX0_canBe_150 ⟨rfl, (Or.inl rfl), (fun q => absurd rfl q)⟩
                  · skip
                    have wi217 := wth_le (a := 0) (b := 47) (j := (g204 jj)) (x215 c216) (by omega) (by decide) (by decide)
                    refine x_iload_n C dX0_canBe_107 rfl 4 rfl rfl ?_
                    refine x_bipush C (v := 62) dX0_canBe_108 (by decide) rfl ?_
                    refine x_icmp_ne C (tgt := 128) dX0_canBe_110 (by decide) rfl (fun c218 => ?_) (fun c218 => ?_)
                    · skip
                      refine x_iload_n C dX0_canBe_128 rfl 4 rfl rfl ?_
                      refine x_bipush C (v := 42) dX0_canBe_129 (by decide) rfl ?_
                      refine x_icmp_ne C (tgt := 151) dX0_canBe_131 (by decide) rfl (fun c219 => ?_) (fun c219 => ?_)
                      · skip
                        refine x_iinc C (v := (nI (jj + 1))) (lv' := [(5, .int (nI (jj + 1))), (6, .int (nI (g204 jj))), (0, .ref (a 87)), (1, .int (nI k)), (2, .ref (a t)), (3, .int (f2 k)), (4, .int (f4 k))]) dX0_canBe_151 6 rfl (nI_add jj 1) (by decide) rfl rfl ?_
                        refine x_goto C (tgt := 73) dX0_canBe_154 (by decide) ?_
                        refine x_lv (lv1 := [(0, .ref (a 87)), (1, .int (nI k)), (2, .ref (a t)), (3, .int (f2 k)), (4, .int (f4 k)), (5, .int (nI (jj + 1)))]) [2, 3, 4, 5, 6, 0] rfl ?_
                        exact ih73 (jj + 1) trivial (by omega) (by omega)
                      · skip
                        refine x_aload_n C dX0_canBe_134 rfl 3 rfl rfl ?_
                        refine x_get C (ci := 8) (k := 4) t k121 rfl in_X9 (by decide) w_210 rfl dX0_canBe_135 rfl ?_
                        refine x_get C (ci := 1) (k := 5) (t + 9) k207 rfl in_X1 (by decide) w_141 rfl dX0_canBe_138 rfl ?_
                        refine x_iload C dX0_canBe_141 0 rfl rfl ?_
                        obtain ⟨_, k220, f221, rfl⟩ := hW (t + 14) _ (okX_t ht (j := 14) rfl)
                        refine x_iald C (v := (f221 (nI (g204 jj)).toNatClampNeg)) (t + 14) k220 (vp_in_nI (by omega) (by decide)) rfl dX0_canBe_143 rfl ?_
                        refine x_any (fun v222 => ?_)
                        refine x_bipush C (v := 9) dX0_canBe_144 (by decide) rfl ?_
                        refine x_icmp_lt C (tgt := 151) dX0_canBe_146 (by decide) rfl (fun c223 => ?_) (fun c223 => ?_)
                        · skip
                          refine x_iinc C (v := (nI (jj + 1))) (lv' := [(5, .int (nI (jj + 1))), (6, .int (nI (g204 jj))), (0, .ref (a 87)), (1, .int (nI k)), (2, .ref (a t)), (3, .int (f2 k)), (4, .int (f4 k))]) dX0_canBe_151 6 rfl (nI_add jj 1) (by decide) rfl rfl ?_
                          refine x_goto C (tgt := 73) dX0_canBe_154 (by decide) ?_
                          refine x_lv (lv1 := [(0, .ref (a 87)), (1, .int (nI k)), (2, .ref (a t)), (3, .int (f2 k)), (4, .int (f4 k)), (5, .int (nI (jj + 1)))]) [2, 3, 4, 5, 6, 0] rfl ?_
                          exact ih73 (jj + 1) trivial (by omega) (by omega)
                        · skip
                          refine x_iconst C (v := 0) dX0_canBe_149 (by decide) rfl ?_
                          exact x_zret C hr hlk rfl dX0_canBe_150 ⟨rfl, (Or.inl rfl), (fun q => absurd rfl q)⟩
                    · skip
                      refine x_aload_n C dX0_canBe_113 rfl 3 rfl rfl ?_
                      refine x_get C (ci := 8) (k := 4) t k121 rfl in_X9 (by decide) w_210 rfl dX0_canBe_114 rfl ?_
                      refine x_get C (ci := 1) (k := 4) (t + 9) k207 rfl in_X1 (by decide) w_136 rfl dX0_canBe_117 rfl ?_
                      refine x_iload C dX0_canBe_120 0 rfl rfl ?_
                      obtain ⟨_, k224, g225, gb226, rfl⟩ := hW (t + 13) _ (okX_t ht (j := 13) rfl)
                      refine x_ialk C (v := nI (g225 (g204 jj))) (g204 jj) (nI_clamp (by omega)) (nI_pos (by omega)) (by omega) (t + 13) k224 rfl dX0_canBe_122 rfl ?_
                      have bx227 := gb226 (g204 jj)
                      refine x_iload C dX0_canBe_123 5 rfl rfl ?_
                      refine x_icmp_eq C (tgt := 149) dX0_canBe_125 (by decide) rfl (fun c228 => ?_) (fun c228 => ?_)
                      · skip
                        refine x_iconst C (v := 0) dX0_canBe_149 (by decide) rfl ?_
                        exact x_zret C hr hlk rfl dX0_canBe_150 ⟨rfl, (Or.inl rfl), (fun q => absurd rfl q)⟩
                      · skip
                        refine x_iload_n C dX0_canBe_128 rfl 4 rfl rfl ?_
                        refine x_bipush C (v := 42) dX0_canBe_129 (by decide) rfl ?_
                        refine x_icmp_ne C (tgt := 151) dX0_canBe_131 (by decide) rfl (fun c229 => ?_) (fun c229 => ?_)
                        · skip
                          refine x_iinc C (v := (nI (jj + 1))) (lv' := [(5, .int (nI (jj + 1))), (6, .int (nI (g204 jj))), (0, .ref (a 87)), (1, .int (nI k)), (2, .ref (a t)), (3, .int (f2 k)), (4, .int (f4 k))]) dX0_canBe_151 6 rfl (nI_add jj 1) (by decide) rfl rfl ?_
                          refine x_goto C (tgt := 73) dX0_canBe_154 (by decide) ?_
                          refine x_lv (lv1 := [(0, .ref (a 87)), (1, .int (nI k)), (2, .ref (a t)), (3, .int (f2 k)), (4, .int (f4 k)), (5, .int (nI (jj + 1)))]) [2, 3, 4, 5, 6, 0] rfl ?_
                          exact ih73 (jj + 1) trivial (by omega) (by omega)
                        · skip
                          refine x_aload_n C dX0_canBe_134 rfl 3 rfl rfl ?_
                          refine x_get C (ci := 8) (k := 4) t k121 rfl in_X9 (by decide) w_210 rfl dX0_canBe_135 rfl ?_
                          refine x_get C (ci := 1) (k := 5) (t + 9) k207 rfl in_X1 (by decide) w_141 rfl dX0_canBe_138 rfl ?_
                          refine x_iload C dX0_canBe_141 0 rfl rfl ?_
                          obtain ⟨_, k230, f231, rfl⟩ := hW (t + 14) _ (okX_t ht (j := 14) rfl)
                          refine x_iald C (v := (f231 (nI (g204 jj)).toNatClampNeg)) (t + 14) k230 (vp_in_nI (by omega) (by decide)) rfl dX0_canBe_143 rfl ?_
                          refine x_any (fun v232 => ?_)
                          refine x_bipush C (v := 9) dX0_canBe_144 (by decide) rfl ?_
                          refine x_icmp_lt C (tgt := 151) dX0_canBe_146 (by decide) rfl (fun c233 => ?_) (fun c233 => ?_)
                          · skip
                            refine x_iinc C (v := (nI (jj + 1))) (lv' := [(5, .int (nI (jj + 1))), (6, .int (nI (g204 jj))), (0, .ref (a 87)), (1, .int (nI k)), (2, .ref (a t)), (3, .int (f2 k)), (4, .int (f4 k))]) dX0_canBe_151 6 rfl (nI_add jj 1) (by decide) rfl rfl ?_
                            refine x_goto C (tgt := 73) dX0_canBe_154 (by decide) ?_
                            refine x_lv (lv1 := [(0, .ref (a 87)), (1, .int (nI k)), (2, .ref (a t)), (3, .int (f2 k)), (4, .int (f4 k)), (5, .int (nI (jj + 1)))]) [2, 3, 4, 5, 6, 0] rfl ?_
                            exact ih73 (jj + 1) trivial (by omega) (by omega)
                          · skip
                            refine x_iconst C (v := 0) dX0_canBe_149 (by decide) rfl ?_
                            exact x_zret C hr hlk rfl dX0_canBe_150 ⟨rfl, (Or.inl rfl), (fun q => absurd rfl q)⟩
            refine x_lv (lv1 := [(0, .ref (a 87)), (1, .int (nI k)), (2, .ref (a t)), (3, .int (f2 k)), (4, .int (f4 k)), (5, .int (nI (g196 k)))]) [3, 4, 5, 2, 1, 0] rfl ?_
            exact loop73 _ (g196 k) trivial (Nat.lt_succ_self _) (by omega)
          · skip
            refine x_iconst C (v := 0) dX0_canBe_63 (by decide) rfl ?_
            exact x_zret C hr hlk rfl dX0_canBe_64 ⟨rfl, (Or.inl rfl), (fun q => absurd rfl q)⟩
theorem dX0_carryOut_0 : decode cX0_carryOut 0 = .ok (.aload_n 0, 1) := by decide +kernel
theorem dX0_carryOut_1 : decode cX0_carryOut 1 = .ok (.getfield 22, 3) := by decide +kernel
theorem dX0_carryOut_4 : decode cX0_carryOut 4 = .ok (.iload_n 1, 1) := by decide +kernel
theorem dX0_carryOut_5 : decode cX0_carryOut 5 = .ok (.iaload, 1) := by decide +kernel
theorem dX0_carryOut_6 : decode cX0_carryOut 6 = .ok (.istore 4, 2) := by decide +kernel
theorem dX0_carryOut_8 : decode cX0_carryOut 8 = .ok (.iload 4, 2) := by decide +kernel
theorem dX0_carryOut_10 : decode cX0_carryOut 10 = .ok (.aload_n 0, 1) := by decide +kernel
theorem dX0_carryOut_11 : decode cX0_carryOut 11 = .ok (.getfield 22, 3) := by decide +kernel
theorem dX0_carryOut_14 : decode cX0_carryOut 14 = .ok (.iload_n 1, 1) := by decide +kernel
theorem dX0_carryOut_15 : decode cX0_carryOut 15 = .ok (.iconst 1, 1) := by decide +kernel
theorem dX0_carryOut_16 : decode cX0_carryOut 16 = .ok (.iadd, 1) := by decide +kernel
theorem dX0_carryOut_17 : decode cX0_carryOut 17 = .ok (.iaload, 1) := by decide +kernel
theorem dX0_carryOut_18 : decode cX0_carryOut 18 = .ok (.if_icmp .ge 107, 3) := by decide +kernel
theorem dX0_carryOut_21 : decode cX0_carryOut 21 = .ok (.aload_n 0, 1) := by decide +kernel
theorem dX0_carryOut_22 : decode cX0_carryOut 22 = .ok (.getfield 25, 3) := by decide +kernel
theorem dX0_carryOut_25 : decode cX0_carryOut 25 = .ok (.iload 4, 2) := by decide +kernel
theorem dX0_carryOut_27 : decode cX0_carryOut 27 = .ok (.iaload, 1) := by decide +kernel
theorem dX0_carryOut_28 : decode cX0_carryOut 28 = .ok (.istore 5, 2) := by decide +kernel
theorem dX0_carryOut_30 : decode cX0_carryOut 30 = .ok (.aload_n 0, 1) := by decide +kernel
theorem dX0_carryOut_31 : decode cX0_carryOut 31 = .ok (.getfield 15, 3) := by decide +kernel
theorem dX0_carryOut_34 : decode cX0_carryOut 34 = .ok (.iload_n 1, 1) := by decide +kernel
theorem dX0_carryOut_35 : decode cX0_carryOut 35 = .ok (.iaload, 1) := by decide +kernel
theorem dX0_carryOut_36 : decode cX0_carryOut 36 = .ok (.lookupswitch 76 #[(33, 51), (46, 67), (62, 36)], 36) := by decide +kernel
theorem dX0_carryOut_72 : decode cX0_carryOut 72 = .ok (.aload_n 2, 1) := by decide +kernel
theorem dX0_carryOut_73 : decode cX0_carryOut 73 = .ok (.iload 5, 2) := by decide +kernel
theorem dX0_carryOut_75 : decode cX0_carryOut 75 = .ok (.aload_n 0, 1) := by decide +kernel
theorem dX0_carryOut_76 : decode cX0_carryOut 76 = .ok (.getfield 19, 3) := by decide +kernel
theorem dX0_carryOut_79 : decode cX0_carryOut 79 = .ok (.iload_n 1, 1) := by decide +kernel
theorem dX0_carryOut_80 : decode cX0_carryOut 80 = .ok (.iaload, 1) := by decide +kernel
theorem dX0_carryOut_81 : decode cX0_carryOut 81 = .ok (.invokevirtual 103, 3) := by decide +kernel
theorem dX0_carryOut_84 : decode cX0_carryOut 84 = .ok (.goto 35, 3) := by decide +kernel
theorem dX0_carryOut_87 : decode cX0_carryOut 87 = .ok (.aload_n 2, 1) := by decide +kernel
theorem dX0_carryOut_88 : decode cX0_carryOut 88 = .ok (.iload 5, 2) := by decide +kernel
theorem dX0_carryOut_90 : decode cX0_carryOut 90 = .ok (.aload_n 0, 1) := by decide +kernel
theorem dX0_carryOut_91 : decode cX0_carryOut 91 = .ok (.getfield 19, 3) := by decide +kernel
theorem dX0_carryOut_94 : decode cX0_carryOut 94 = .ok (.iload_n 1, 1) := by decide +kernel
theorem dX0_carryOut_95 : decode cX0_carryOut 95 = .ok (.iaload, 1) := by decide +kernel
theorem dX0_carryOut_96 : decode cX0_carryOut 96 = .ok (.aload_n 3, 1) := by decide +kernel
theorem dX0_carryOut_97 : decode cX0_carryOut 97 = .ok (.invokevirtual 107, 3) := by decide +kernel
theorem dX0_carryOut_100 : decode cX0_carryOut 100 = .ok (.goto 19, 3) := by decide +kernel
theorem dX0_carryOut_103 : decode cX0_carryOut 103 = .ok (.aload_n 2, 1) := by decide +kernel
theorem dX0_carryOut_104 : decode cX0_carryOut 104 = .ok (.iload 5, 2) := by decide +kernel
theorem dX0_carryOut_106 : decode cX0_carryOut 106 = .ok (.invokevirtual 111, 3) := by decide +kernel
theorem dX0_carryOut_109 : decode cX0_carryOut 109 = .ok (.goto 10, 3) := by decide +kernel
theorem dX0_carryOut_112 : decode cX0_carryOut 112 = .ok (.aload_n 2, 1) := by decide +kernel
theorem dX0_carryOut_113 : decode cX0_carryOut 113 = .ok (.iload 5, 2) := by decide +kernel
theorem dX0_carryOut_115 : decode cX0_carryOut 115 = .ok (.aload_n 3, 1) := by decide +kernel
theorem dX0_carryOut_116 : decode cX0_carryOut 116 = .ok (.invokevirtual 115, 3) := by decide +kernel
theorem dX0_carryOut_119 : decode cX0_carryOut 119 = .ok (.iinc 4 1, 3) := by decide +kernel
theorem dX0_carryOut_122 : decode cX0_carryOut 122 = .ok (.goto (-114), 3) := by decide +kernel
theorem dX0_carryOut_125 : decode cX0_carryOut 125 = .ok (.return_, 1) := by decide +kernel
set_option maxRecDepth 20000 in
set_option maxHeartbeats 4000000 in
theorem c_carryOut (E : xE) (l : Launch) (a : Nat → Nat) (ws : va_W) (hW : WX (okX E a) ws) (t : Nat) (ht : tb t) (k : Nat) (hk : k ≤ 23) (htg : tgW ws k) : xV E l yX0_carryOut cX0_carryOut 6 5 0 0 [.ref (a 87), .int (nI k), .ref (a t), .ref (a 71)] ws (fun w => WX (okX E a) w ∧ keeps ws w (fun q => (t ≤ q ∧ q < t + 22) ∨ (71 ≤ q ∧ q < 79))) := by
  refine xV_start (lv := [(0, .ref (a 87)), (1, .int (nI k)), (2, .ref (a t)), (3, .ref (a 71))]) RX0 (by decide) rfl (Nat.le_of_ble_eq_true rfl) rfl (fun p e s m below meth c A C hr hlk hin => ?_)
  have htb := tb_lo ht
  have kp0 : keeps ws ws (fun q => (t ≤ q ∧ q < t + 22) ∨ (71 ≤ q ∧ q < 79)) := keeps_rf
  obtain ⟨_, k1, f2, rfl⟩ := hW 88 _ rfl
  obtain ⟨_, k3, f4, rfl⟩ := hW 89 _ rfl
  have hT := (tgW_iff k1 k3).mp htg
  refine x_aload_n C dX0_carryOut_0 rfl 0 rfl rfl ?_
  obtain ⟨_, k5, n6, n8, bn7, bn9, rfl⟩ := hW 87 _ rfl
  refine x_get C (ci := 0) (k := 3) 87 k5 rfl in_X0 (by decide) w_298 rfl dX0_carryOut_1 rfl ?_
  refine x_iload_n C dX0_carryOut_4 rfl 1 rfl rfl ?_
  obtain ⟨_, k10, g11, gb12, rfl⟩ := hW 90 _ rfl
  refine x_ialk C (v := nI (g11 k)) k (nI_clamp (by omega)) (nI_pos (by omega)) (by omega) 90 k10 rfl dX0_carryOut_5 rfl ?_
  have bx13 := gb12 k
  refine x_istore C (lv' := [(4, .int (nI (g11 k))), (0, .ref (a 87)), (1, .int (nI k)), (2, .ref (a t)), (3, .ref (a 71))]) dX0_carryOut_6 (by decide) rfl rfl ?_
  have loop8 : ∀ (fu8 : Nat) (jj : Nat) (wl8 : va_W), WX (okX E a) wl8 → 140 - jj < fu8 → jj ≤ 140 → keeps ws wl8 (fun q => (t ≤ q ∧ q < t + 22) ∨ (71 ≤ q ∧ q < 79)) → X E p l e (xRm 5 0 0) s m ([.ref (a 87), .int (nI k), .ref (a t), .ref (a 71)] : List Value).toArray below meth c A 6 0 0 (MQ below (va_Qv (fun w => WX (okX E a) w ∧ keeps ws w (fun q => (t ≤ q ∧ q < t + 22) ∨ (71 ≤ q ∧ q < 79))) (xB E A) A) ([.ref (a 87), .int (nI k), .ref (a t), .ref (a 71)] : List Value).toArray s 0 0 A) wl8 8 [(0, .ref (a 87)), (1, .int (nI k)), (2, .ref (a t)), (3, .ref (a 71)), (4, .int (nI jj))] [] := by
    intro fu8
    induction fu8 with
    | zero => intro jj wl8 _ q; omega
    | succ fu8 ih8 =>
      intro jj wl8 hWl8 me8 iv8_0 kq8
      have k14 : wl8[88]? = some (iA E (a 88) 24 f2) := keeps_at kq8 k1 (by first | decide | omega | (dsimp only; omega))
      have k15 : wl8[89]? = some (iA E (a 89) 24 f4) := keeps_at kq8 k3 (by first | decide | omega | (dsimp only; omega))
      refine x_iload C dX0_carryOut_8 4 rfl rfl ?_
      refine x_aload_n C dX0_carryOut_10 rfl 0 rfl rfl ?_
      obtain ⟨_, k16, n17, n19, bn18, bn20, rfl⟩ := hWl8 87 _ rfl
      refine x_get C (ci := 0) (k := 3) 87 k16 rfl in_X0 (by decide) w_298 rfl dX0_carryOut_11 rfl ?_
      refine x_iload_n C dX0_carryOut_14 rfl 1 rfl rfl ?_
      refine x_iconst C (v := 1) dX0_carryOut_15 (by decide) rfl ?_
      refine x_iadd C (v := (nI (k + 1))) dX0_carryOut_16 (nI_add k 1) rfl ?_
      obtain ⟨_, k21, g22, gb23, rfl⟩ := hWl8 90 _ rfl
      refine x_ialk C (v := nI (g22 (k + 1))) (k + 1) (nI_clamp (by omega)) (nI_pos (by omega)) (by omega) 90 k21 rfl dX0_carryOut_17 rfl ?_
      have bx24 := gb23 (k + 1)
      refine x_icmp_ge C (tgt := 125) dX0_carryOut_18 (by decide) rfl (fun c25 => ?_) (fun c25 => ?_)
      · skip
        have nf26 := nI_le' (a := (g22 (k + 1))) (b := jj) c25 (by omega) (by omega)
        exact x_vret C hr hlk dX0_carryOut_125 ⟨hWl8, kq8⟩
      · skip
        have nf27 := nI_nle' (a := (g22 (k + 1))) (b := jj) c25 (by omega) (by omega)
        refine x_aload_n C dX0_carryOut_21 rfl 0 rfl rfl ?_
        refine x_get C (ci := 0) (k := 4) 87 k16 rfl in_X0 (by decide) w_299 rfl dX0_carryOut_22 rfl ?_
        refine x_iload C dX0_carryOut_25 4 rfl rfl ?_
        obtain ⟨_, k28, g29, gb30, rfl⟩ := hWl8 91 _ rfl
        refine x_ialk C (v := nI (g29 jj)) jj (nI_clamp (by omega)) (nI_pos (by omega)) (by omega) 91 k28 rfl dX0_carryOut_27 rfl ?_
        have bx31 := gb30 jj
        refine x_istore C (lv' := [(5, .int (nI (g29 jj))), (0, .ref (a 87)), (1, .int (nI k)), (2, .ref (a t)), (3, .ref (a 71)), (4, .int (nI jj))]) dX0_carryOut_28 (by decide) rfl rfl ?_
        refine x_aload_n C dX0_carryOut_30 rfl 1 rfl rfl ?_
        refine x_get C (ci := 0) (k := 1) 87 k16 rfl in_X0 (by decide) w_296 rfl dX0_carryOut_31 rfl ?_
        refine x_iload_n C dX0_carryOut_34 rfl 2 rfl rfl ?_
        refine x_ialk C (v := (f2 k)) k (nI_clamp (by omega)) (nI_pos (by omega)) (by omega) 88 k14 rfl dX0_carryOut_35 rfl ?_
        by_cases e32 : (f2 k) = 33
        · refine x_look C (off := 51) (tgt := 87) dX0_carryOut_36 (by decide) (by rw [e32]; decide) (by decide) ?_
          refine x_aload_n C dX0_carryOut_87 rfl 3 rfl rfl ?_
          refine x_iload C dX0_carryOut_88 0 rfl rfl ?_
          refine x_aload_n C dX0_carryOut_90 rfl 1 rfl rfl ?_
          refine x_get C (ci := 0) (k := 2) 87 k16 rfl in_X0 (by decide) w_297 rfl dX0_carryOut_91 rfl ?_
          refine x_iload_n C dX0_carryOut_94 rfl 2 rfl rfl ?_
          refine x_ialk C (v := (f4 k)) k (nI_clamp (by omega)) (nI_pos (by omega)) (by omega) 89 k15 rfl dX0_carryOut_95 rfl ?_
          obtain ⟨tj33, tl34, th35, et36⟩ := w_nat (a := 0) (b := 7) (by decide) (by decide) (hT (Or.inr e32))
          refine x_top (v := nI tj33) et36 ?_
          refine x_aload_n C dX0_carryOut_96 rfl 4 rfl rfl ?_
          obtain ⟨_, k37, v38, v39, v40, v41, v42, v43, rfl⟩ := hWl8 (t + 0) _ (okX_t ht (j := 0) rfl)
          refine x_vv C (As := [.int (nI (g29 jj)), .int (nI tj33), .ref (a 71)]) (rest := []) (c_breakFor E l a wl8 hWl8 t ht (g29 jj) tj33 (by omega) (by omega)) mf_X9_breakFor w_727 t k37 rfl rfl rfl (Nat.le_of_ble_eq_true rfl) ⟨(Nat.le_of_ble_eq_true rfl), (Nat.le_of_ble_eq_true rfl)⟩ ⟨(Nat.le_of_ble_eq_true rfl), (Nat.le_of_ble_eq_true rfl)⟩ dX0_carryOut_97 rfl (fun w46 h44 => ?_)
          obtain ⟨hW47, kq48⟩ := h44
          have k49 : w46[88]? = some (iA E (a 88) 24 f2) := keeps_at kq48 k14 (by first | decide | omega | (dsimp only; omega))
          have k50 : w46[89]? = some (iA E (a 89) 24 f4) := keeps_at kq48 k15 (by first | decide | omega | (dsimp only; omega))
          have k51 : w46[87]? = some (ob (a 87) 0 [.int (nI n17), .ref (a 88), .ref (a 89), .ref (a 90), .ref (a 91), .int (nI n19)]) := keeps_at kq48 k16 (by first | decide | omega | (dsimp only; omega))
          have k52 : w46[90]? = some (iA E (a 90) 25 (fun j => nI (g22 j))) := keeps_at kq48 k21 (by first | decide | omega | (dsimp only; omega))
          have k53 : w46[91]? = some (iA E (a 91) 140 (fun j => nI (g29 j))) := keeps_at kq48 k28 (by first | decide | omega | (dsimp only; omega))
          have kp54 := keeps_tr kq8 kq48 (fun q hq => by first | omega | (dsimp only at *; omega))
          refine x_goto C (tgt := 119) dX0_carryOut_100 (by decide) ?_
          refine x_iinc C (v := (nI (jj + 1))) (lv' := [(4, .int (nI (jj + 1))), (5, .int (nI (g29 jj))), (0, .ref (a 87)), (1, .int (nI k)), (2, .ref (a t)), (3, .ref (a 71))]) dX0_carryOut_119 5 rfl (nI_add jj 1) (by decide) rfl rfl ?_
          refine x_goto C (tgt := 8) dX0_carryOut_122 (by decide) ?_
          refine x_lv (lv1 := [(0, .ref (a 87)), (1, .int (nI k)), (2, .ref (a t)), (3, .ref (a 71)), (4, .int (nI (jj + 1)))]) [2, 3, 4, 5, 0] rfl ?_
          exact ih8 (jj + 1) w46 hW47 (by omega) (by omega) kp54
        by_cases e55 : (f2 k) = 46
        · refine x_look C (off := 67) (tgt := 103) dX0_carryOut_36 (by decide) (by rw [e55]; decide) (by decide) ?_
          refine x_aload_n C dX0_carryOut_103 rfl 3 rfl rfl ?_
          refine x_iload C dX0_carryOut_104 0 rfl rfl ?_
          obtain ⟨_, k56, v57, v58, v59, v60, v61, v62, rfl⟩ := hWl8 (t + 0) _ (okX_t ht (j := 0) rfl)
          refine x_vv C (As := [.int (nI (g29 jj))]) (rest := []) (c_breakEgg E l a wl8 hWl8 t ht (g29 jj) (by omega)) mf_X9_breakEgg w_778 t k56 rfl rfl rfl (Nat.le_of_ble_eq_true rfl) ⟨(Nat.le_of_ble_eq_true rfl), (Nat.le_of_ble_eq_true rfl)⟩ ⟨(Nat.le_of_ble_eq_true rfl), (Nat.le_of_ble_eq_true rfl)⟩ dX0_carryOut_106 rfl (fun w65 h63 => ?_)
          obtain ⟨hW66, kq67⟩ := h63
          have k68 : w65[88]? = some (iA E (a 88) 24 f2) := keeps_at kq67 k14 (by first | decide | omega | (dsimp only; omega))
          have k69 : w65[89]? = some (iA E (a 89) 24 f4) := keeps_at kq67 k15 (by first | decide | omega | (dsimp only; omega))
          have k70 : w65[87]? = some (ob (a 87) 0 [.int (nI n17), .ref (a 88), .ref (a 89), .ref (a 90), .ref (a 91), .int (nI n19)]) := keeps_at kq67 k16 (by first | decide | omega | (dsimp only; omega))
          have k71 : w65[90]? = some (iA E (a 90) 25 (fun j => nI (g22 j))) := keeps_at kq67 k21 (by first | decide | omega | (dsimp only; omega))
          have k72 : w65[91]? = some (iA E (a 91) 140 (fun j => nI (g29 j))) := keeps_at kq67 k28 (by first | decide | omega | (dsimp only; omega))
          have kp73 := keeps_tr kq8 kq67 (fun q hq => by first | omega | (dsimp only at *; omega))
          refine x_goto C (tgt := 119) dX0_carryOut_109 (by decide) ?_
          refine x_iinc C (v := (nI (jj + 1))) (lv' := [(4, .int (nI (jj + 1))), (5, .int (nI (g29 jj))), (0, .ref (a 87)), (1, .int (nI k)), (2, .ref (a t)), (3, .ref (a 71))]) dX0_carryOut_119 5 rfl (nI_add jj 1) (by decide) rfl rfl ?_
          refine x_goto C (tgt := 8) dX0_carryOut_122 (by decide) ?_
          refine x_lv (lv1 := [(0, .ref (a 87)), (1, .int (nI k)), (2, .ref (a t)), (3, .ref (a 71)), (4, .int (nI (jj + 1)))]) [2, 3, 4, 5, 0] rfl ?_
          exact ih8 (jj + 1) w65 hW66 (by omega) (by omega) kp73
        by_cases e74 : (f2 k) = 62
        · refine x_look C (off := 36) (tgt := 72) dX0_carryOut_36 (by decide) (by rw [e74]; decide) (by decide) ?_
          refine x_aload_n C dX0_carryOut_72 rfl 3 rfl rfl ?_
          refine x_iload C dX0_carryOut_73 0 rfl rfl ?_
          refine x_aload_n C dX0_carryOut_75 rfl 1 rfl rfl ?_
          refine x_get C (ci := 0) (k := 2) 87 k16 rfl in_X0 (by decide) w_297 rfl dX0_carryOut_76 rfl ?_
          refine x_iload_n C dX0_carryOut_79 rfl 2 rfl rfl ?_
          refine x_ialk C (v := (f4 k)) k (nI_clamp (by omega)) (nI_pos (by omega)) (by omega) 89 k15 rfl dX0_carryOut_80 rfl ?_
          obtain ⟨tj75, tl76, th77, et78⟩ := w_nat (a := 0) (b := 7) (by decide) (by decide) (hT (Or.inl e74))
          refine x_top (v := nI tj75) et78 ?_
          obtain ⟨_, k79, v80, v81, v82, v83, v84, v85, rfl⟩ := hWl8 (t + 0) _ (okX_t ht (j := 0) rfl)
          refine x_vv C (As := [.int (nI (g29 jj)), .int (nI tj75)]) (rest := []) (c_give E l a wl8 hWl8 t ht (g29 jj) tj75 (by omega) (by omega)) mf_X9_give w_723 t k79 rfl rfl rfl (Nat.le_of_ble_eq_true rfl) ⟨(Nat.le_of_ble_eq_true rfl), (Nat.le_of_ble_eq_true rfl)⟩ ⟨(Nat.le_of_ble_eq_true rfl), (Nat.le_of_ble_eq_true rfl)⟩ dX0_carryOut_81 rfl (fun w88 h86 => ?_)
          obtain ⟨hW89, kq90⟩ := h86
          have k91 : w88[88]? = some (iA E (a 88) 24 f2) := keeps_at kq90 k14 (by first | decide | omega | (dsimp only; omega))
          have k92 : w88[89]? = some (iA E (a 89) 24 f4) := keeps_at kq90 k15 (by first | decide | omega | (dsimp only; omega))
          have k93 : w88[87]? = some (ob (a 87) 0 [.int (nI n17), .ref (a 88), .ref (a 89), .ref (a 90), .ref (a 91), .int (nI n19)]) := keeps_at kq90 k16 (by first | decide | omega | (dsimp only; omega))
          have k94 : w88[90]? = some (iA E (a 90) 25 (fun j => nI (g22 j))) := keeps_at kq90 k21 (by first | decide | omega | (dsimp only; omega))
          have k95 : w88[91]? = some (iA E (a 91) 140 (fun j => nI (g29 j))) := keeps_at kq90 k28 (by first | decide | omega | (dsimp only; omega))
          have kp96 := keeps_tr kq8 kq90 (fun q hq => by first | omega | (dsimp only at *; omega))
          refine x_goto C (tgt := 119) dX0_carryOut_84 (by decide) ?_
          refine x_iinc C (v := (nI (jj + 1))) (lv' := [(4, .int (nI (jj + 1))), (5, .int (nI (g29 jj))), (0, .ref (a 87)), (1, .int (nI k)), (2, .ref (a t)), (3, .ref (a 71))]) dX0_carryOut_119 5 rfl (nI_add jj 1) (by decide) rfl rfl ?_
          refine x_goto C (tgt := 8) dX0_carryOut_122 (by decide) ?_
          refine x_lv (lv1 := [(0, .ref (a 87)), (1, .int (nI k)), (2, .ref (a t)), (3, .ref (a 71)), (4, .int (nI (jj + 1)))]) [2, 3, 4, 5, 0] rfl ?_
          exact ih8 (jj + 1) w88 hW89 (by omega) (by omega) kp96
        refine x_look C (off := 76) (tgt := 112) dX0_carryOut_36 (by decide) ((lv_osw e32 (by decide)).trans ((lv_osw e55 (by decide)).trans ((lv_osw e74 (by decide)).trans rfl))) (by decide) ?_
        refine x_aload_n C dX0_carryOut_112 rfl 3 rfl rfl ?_
        refine x_iload C dX0_carryOut_113 0 rfl rfl ?_
        refine x_aload_n C dX0_carryOut_115 rfl 4 rfl rfl ?_
        obtain ⟨_, k97, v98, v99, v100, v101, v102, v103, rfl⟩ := hWl8 (t + 0) _ (okX_t ht (j := 0) rfl)
        refine x_vv C (As := [.int (nI (g29 jj)), .ref (a 71)]) (rest := []) (c_brood E l a wl8 hWl8 t ht (g29 jj) (by omega)) mf_X9_brood w_779 t k97 rfl rfl rfl (Nat.le_of_ble_eq_true rfl) ⟨(Nat.le_of_ble_eq_true rfl), (Nat.le_of_ble_eq_true rfl)⟩ ⟨(Nat.le_of_ble_eq_true rfl), (Nat.le_of_ble_eq_true rfl)⟩ dX0_carryOut_116 rfl (fun w106 h104 => ?_)
        obtain ⟨hW107, kq108⟩ := h104
        have k109 : w106[88]? = some (iA E (a 88) 24 f2) := keeps_at kq108 k14 (by first | decide | omega | (dsimp only; omega))
        have k110 : w106[89]? = some (iA E (a 89) 24 f4) := keeps_at kq108 k15 (by first | decide | omega | (dsimp only; omega))
        have k111 : w106[87]? = some (ob (a 87) 0 [.int (nI n17), .ref (a 88), .ref (a 89), .ref (a 90), .ref (a 91), .int (nI n19)]) := keeps_at kq108 k16 (by first | decide | omega | (dsimp only; omega))
        have k112 : w106[90]? = some (iA E (a 90) 25 (fun j => nI (g22 j))) := keeps_at kq108 k21 (by first | decide | omega | (dsimp only; omega))
        have k113 : w106[91]? = some (iA E (a 91) 140 (fun j => nI (g29 j))) := keeps_at kq108 k28 (by first | decide | omega | (dsimp only; omega))
        have kp114 := keeps_tr kq8 kq108 (fun q hq => by first | omega | (dsimp only at *; omega))
        refine x_iinc C (v := (nI (jj + 1))) (lv' := [(4, .int (nI (jj + 1))), (5, .int (nI (g29 jj))), (0, .ref (a 87)), (1, .int (nI k)), (2, .ref (a t)), (3, .ref (a 71))]) dX0_carryOut_119 5 rfl (nI_add jj 1) (by decide) rfl rfl ?_
        refine x_goto C (tgt := 8) dX0_carryOut_122 (by decide) ?_
        refine x_lv (lv1 := [(0, .ref (a 87)), (1, .int (nI k)), (2, .ref (a t)), (3, .ref (a 71)), (4, .int (nI (jj + 1)))]) [2, 3, 4, 5, 0] rfl ?_
        exact ih8 (jj + 1) w106 hW107 (by omega) (by omega) kp114
  refine x_lv (lv1 := [(0, .ref (a 87)), (1, .int (nI k)), (2, .ref (a t)), (3, .ref (a 71)), (4, .int (nI (g11 k)))]) [1, 2, 3, 4, 0] rfl ?_
  exact loop8 _ (g11 k) ws hW (Nat.lt_succ_self _) (by omega) kp0
