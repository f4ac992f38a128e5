theorem dX12_law_0 : decode cX12_law 0 = .ok (.iload_n 1, 1) := by decide +kernel
theorem dX12_law_1 : decode cX12_law 1 = .ok (.iconst 1, 1) := by decide +kernel
theorem dX12_law_2 : decode cX12_law 2 = .ok (.sipush 240, 3) := by decide +kernel
theorem dX12_law_5 : decode cX12_law 5 = .ok (.invokestatic 109, 3) := by decide +kernel
theorem dX12_law_8 : decode cX12_law 8 = .ok (.ifCond .eq 11, 3) := by decide +kernel
theorem dX12_law_11 : decode cX12_law 11 = .ok (.iload_n 1, 1) := by decide +kernel
theorem dX12_law_12 : decode cX12_law 12 = .ok (.aload_n 0, 1) := by decide +kernel
theorem dX12_law_13 : decode cX12_law 13 = .ok (.getfield 123, 3) := by decide +kernel
theorem dX12_law_16 : decode cX12_law 16 = .ok (.if_icmp .le 5, 3) := by decide +kernel
theorem dX12_law_19 : decode cX12_law 19 = .ok (.iconst (-1), 1) := by decide +kernel
theorem dX12_law_20 : decode cX12_law 20 = .ok (.ireturn, 1) := by decide +kernel
theorem dX12_law_21 : decode cX12_law 21 = .ok (.aload_n 0, 1) := by decide +kernel
theorem dX12_law_22 : decode cX12_law 22 = .ok (.iconst 0, 1) := by decide +kernel
theorem dX12_law_23 : decode cX12_law 23 = .ok (.putfield 131, 3) := by decide +kernel
theorem dX12_law_26 : decode cX12_law 26 = .ok (.aload_n 0, 1) := by decide +kernel
theorem dX12_law_27 : decode cX12_law 27 = .ok (.iload_n 1, 1) := by decide +kernel
theorem dX12_law_28 : decode cX12_law 28 = .ok (.putfield 134, 3) := by decide +kernel
theorem dX12_law_31 : decode cX12_law 31 = .ok (.aload_n 0, 1) := by decide +kernel
theorem dX12_law_32 : decode cX12_law 32 = .ok (.iconst 0, 1) := by decide +kernel
theorem dX12_law_33 : decode cX12_law 33 = .ok (.putfield 154, 3) := by decide +kernel
theorem dX12_law_36 : decode cX12_law 36 = .ok (.aload_n 0, 1) := by decide +kernel
theorem dX12_law_37 : decode cX12_law 37 = .ok (.iconst 0, 1) := by decide +kernel
theorem dX12_law_38 : decode cX12_law 38 = .ok (.putfield 211, 3) := by decide +kernel
theorem dX12_law_41 : decode cX12_law 41 = .ok (.aload_n 0, 1) := by decide +kernel
theorem dX12_law_42 : decode cX12_law 42 = .ok (.invokevirtual 217, 3) := by decide +kernel
theorem dX12_law_45 : decode cX12_law 45 = .ok (.istore_n 2, 1) := by decide +kernel
theorem dX12_law_46 : decode cX12_law 46 = .ok (.iload_n 2, 1) := by decide +kernel
theorem dX12_law_47 : decode cX12_law 47 = .ok (.ifCond .eq 39, 3) := by decide +kernel
theorem dX12_law_50 : decode cX12_law 50 = .ok (.aload_n 0, 1) := by decide +kernel
theorem dX12_law_51 : decode cX12_law 51 = .ok (.getfield 131, 3) := by decide +kernel
theorem dX12_law_54 : decode cX12_law 54 = .ok (.aload_n 0, 1) := by decide +kernel
theorem dX12_law_55 : decode cX12_law 55 = .ok (.getfield 134, 3) := by decide +kernel
theorem dX12_law_58 : decode cX12_law 58 = .ok (.if_icmp .ge 28, 3) := by decide +kernel
theorem dX12_law_61 : decode cX12_law 61 = .ok (.aload_n 0, 1) := by decide +kernel
theorem dX12_law_62 : decode cX12_law 62 = .ok (.bipush 59, 2) := by decide +kernel
theorem dX12_law_64 : decode cX12_law 64 = .ok (.invokevirtual 220, 3) := by decide +kernel
theorem dX12_law_67 : decode cX12_law 67 = .ok (.ifCond .eq 14, 3) := by decide +kernel
theorem dX12_law_70 : decode cX12_law 70 = .ok (.aload_n 0, 1) := by decide +kernel
theorem dX12_law_71 : decode cX12_law 71 = .ok (.invokevirtual 217, 3) := by decide +kernel
theorem dX12_law_74 : decode cX12_law 74 = .ok (.ifCond .eq 7, 3) := by decide +kernel
theorem dX12_law_77 : decode cX12_law 77 = .ok (.iconst 1, 1) := by decide +kernel
theorem dX12_law_78 : decode cX12_law 78 = .ok (.goto 4, 3) := by decide +kernel
theorem dX12_law_81 : decode cX12_law 81 = .ok (.iconst 0, 1) := by decide +kernel
theorem dX12_law_82 : decode cX12_law 82 = .ok (.istore_n 2, 1) := by decide +kernel
theorem dX12_law_83 : decode cX12_law 83 = .ok (.goto (-37), 3) := by decide +kernel
theorem dX12_law_86 : decode cX12_law 86 = .ok (.aload_n 0, 1) := by decide +kernel
theorem dX12_law_87 : decode cX12_law 87 = .ok (.iconst 0, 1) := by decide +kernel
theorem dX12_law_88 : decode cX12_law 88 = .ok (.putfield 123, 3) := by decide +kernel
theorem dX12_law_91 : decode cX12_law 91 = .ok (.iload_n 2, 1) := by decide +kernel
theorem dX12_law_92 : decode cX12_law 92 = .ok (.ifCond .ne 8, 3) := by decide +kernel
theorem dX12_law_95 : decode cX12_law 95 = .ok (.aload_n 0, 1) := by decide +kernel
theorem dX12_law_96 : decode cX12_law 96 = .ok (.getfield 141, 3) := by decide +kernel
theorem dX12_law_99 : decode cX12_law 99 = .ok (.ireturn, 1) := by decide +kernel
theorem dX12_law_100 : decode cX12_law 100 = .ok (.aload_n 0, 1) := by decide +kernel
theorem dX12_law_101 : decode cX12_law 101 = .ok (.aload_n 0, 1) := by decide +kernel
theorem dX12_law_102 : decode cX12_law 102 = .ok (.getfield 211, 3) := by decide +kernel
theorem dX12_law_105 : decode cX12_law 105 = .ok (.putfield 223, 3) := by decide +kernel
theorem dX12_law_108 : decode cX12_law 108 = .ok (.iconst 0, 1) := by decide +kernel
theorem dX12_law_109 : decode cX12_law 109 = .ok (.istore_n 3, 1) := by decide +kernel
theorem dX12_law_110 : decode cX12_law 110 = .ok (.iload_n 3, 1) := by decide +kernel
theorem dX12_law_111 : decode cX12_law 111 = .ok (.aload_n 0, 1) := by decide +kernel
theorem dX12_law_112 : decode cX12_law 112 = .ok (.getfield 154, 3) := by decide +kernel
theorem dX12_law_115 : decode cX12_law 115 = .ok (.if_icmp .ge 21, 3) := by decide +kernel
theorem dX12_law_118 : decode cX12_law 118 = .ok (.aload_n 0, 1) := by decide +kernel
theorem dX12_law_119 : decode cX12_law 119 = .ok (.getfield 41, 3) := by decide +kernel
theorem dX12_law_122 : decode cX12_law 122 = .ok (.iload_n 3, 1) := by decide +kernel
theorem dX12_law_123 : decode cX12_law 123 = .ok (.aload_n 0, 1) := by decide +kernel
theorem dX12_law_124 : decode cX12_law 124 = .ok (.getfield 23, 3) := by decide +kernel
theorem dX12_law_127 : decode cX12_law 127 = .ok (.iload_n 3, 1) := by decide +kernel
theorem dX12_law_128 : decode cX12_law 128 = .ok (.iaload, 1) := by decide +kernel
theorem dX12_law_129 : decode cX12_law 129 = .ok (.iastore, 1) := by decide +kernel
theorem dX12_law_130 : decode cX12_law 130 = .ok (.iinc 3 1, 3) := by decide +kernel
theorem dX12_law_133 : decode cX12_law 133 = .ok (.goto (-23), 3) := by decide +kernel
theorem dX12_law_136 : decode cX12_law 136 = .ok (.iconst 0, 1) := by decide +kernel
theorem dX12_law_137 : decode cX12_law 137 = .ok (.istore_n 3, 1) := by decide +kernel
theorem dX12_law_138 : decode cX12_law 138 = .ok (.iload_n 3, 1) := by decide +kernel
theorem dX12_law_139 : decode cX12_law 139 = .ok (.aload_n 0, 1) := by decide +kernel
theorem dX12_law_140 : decode cX12_law 140 = .ok (.getfield 211, 3) := by decide +kernel
theorem dX12_law_143 : decode cX12_law 143 = .ok (.if_icmp .ge 57, 3) := by decide +kernel
theorem dX12_law_146 : decode cX12_law 146 = .ok (.aload_n 0, 1) := by decide +kernel
theorem dX12_law_147 : decode cX12_law 147 = .ok (.getfield 44, 3) := by decide +kernel
theorem dX12_law_150 : decode cX12_law 150 = .ok (.iload_n 3, 1) := by decide +kernel
theorem dX12_law_151 : decode cX12_law 151 = .ok (.aload_n 0, 1) := by decide +kernel
theorem dX12_law_152 : decode cX12_law 152 = .ok (.getfield 29, 3) := by decide +kernel
theorem dX12_law_155 : decode cX12_law 155 = .ok (.iload_n 3, 1) := by decide +kernel
theorem dX12_law_156 : decode cX12_law 156 = .ok (.iaload, 1) := by decide +kernel
theorem dX12_law_157 : decode cX12_law 157 = .ok (.iastore, 1) := by decide +kernel
theorem dX12_law_158 : decode cX12_law 158 = .ok (.aload_n 0, 1) := by decide +kernel
theorem dX12_law_159 : decode cX12_law 159 = .ok (.getfield 47, 3) := by decide +kernel
theorem dX12_law_162 : decode cX12_law 162 = .ok (.iload_n 3, 1) := by decide +kernel
theorem dX12_law_163 : decode cX12_law 163 = .ok (.aload_n 0, 1) := by decide +kernel
theorem dX12_law_164 : decode cX12_law 164 = .ok (.getfield 32, 3) := by decide +kernel
theorem dX12_law_167 : decode cX12_law 167 = .ok (.iload_n 3, 1) := by decide +kernel
theorem dX12_law_168 : decode cX12_law 168 = .ok (.iaload, 1) := by decide +kernel
theorem dX12_law_169 : decode cX12_law 169 = .ok (.iastore, 1) := by decide +kernel
theorem dX12_law_170 : decode cX12_law 170 = .ok (.aload_n 0, 1) := by decide +kernel
theorem dX12_law_171 : decode cX12_law 171 = .ok (.getfield 50, 3) := by decide +kernel
theorem dX12_law_174 : decode cX12_law 174 = .ok (.iload_n 3, 1) := by decide +kernel
theorem dX12_law_175 : decode cX12_law 175 = .ok (.aload_n 0, 1) := by decide +kernel
theorem dX12_law_176 : decode cX12_law 176 = .ok (.getfield 35, 3) := by decide +kernel
theorem dX12_law_179 : decode cX12_law 179 = .ok (.iload_n 3, 1) := by decide +kernel
theorem dX12_law_180 : decode cX12_law 180 = .ok (.iaload, 1) := by decide +kernel
theorem dX12_law_181 : decode cX12_law 181 = .ok (.iastore, 1) := by decide +kernel
theorem dX12_law_182 : decode cX12_law 182 = .ok (.aload_n 0, 1) := by decide +kernel
theorem dX12_law_183 : decode cX12_law 183 = .ok (.getfield 53, 3) := by decide +kernel
theorem dX12_law_186 : decode cX12_law 186 = .ok (.iload_n 3, 1) := by decide +kernel
theorem dX12_law_187 : decode cX12_law 187 = .ok (.aload_n 0, 1) := by decide +kernel
theorem dX12_law_188 : decode cX12_law 188 = .ok (.getfield 38, 3) := by decide +kernel
theorem dX12_law_191 : decode cX12_law 191 = .ok (.iload_n 3, 1) := by decide +kernel
theorem dX12_law_192 : decode cX12_law 192 = .ok (.iaload, 1) := by decide +kernel
theorem dX12_law_193 : decode cX12_law 193 = .ok (.iastore, 1) := by decide +kernel
theorem dX12_law_194 : decode cX12_law 194 = .ok (.iinc 3 1, 3) := by decide +kernel
theorem dX12_law_197 : decode cX12_law 197 = .ok (.goto (-59), 3) := by decide +kernel
theorem dX12_law_200 : decode cX12_law 200 = .ok (.aload_n 0, 1) := by decide +kernel
theorem dX12_law_201 : decode cX12_law 201 = .ok (.getfield 211, 3) := by decide +kernel
theorem dX12_law_204 : decode cX12_law 204 = .ok (.ireturn, 1) := by decide +kernel
set_option maxRecDepth 20000 in
set_option maxHeartbeats 4000000 in
theorem m_law (E : xE) (l : Launch) (a : Nat → Nat) (cd : Cd) (hG : Good cd) (ws : va_W) (hW : WX (okM E a cd) ws) (p0 : Int32) : xI E l yX12_law cX12_law 4 (some .int) 10 [.ref (a 0), .int p0] ws (fun r w => ∃ cd2 : Cd, Good cd2 ∧ WX (okM E a cd2) w) := by
  refine xI_start (lv := [(0, .ref (a 0)), (1, .int p0)]) RX12 (by decide) rfl (Nat.le_of_ble_eq_true rfl) rfl (fun p e s m below meth c A C hr hlk => ?_)
  obtain ⟨_, k1, n2, n4, n6, v8, v9, v10, n11, n13, n15, n17, v19, v20, v21, v22, n23, n25, v27, bn3, bn5, bn7, bn12, bn14, bn16, bn18, bn24, bn26, zv28, rfl⟩ := hW 0 _ rfl
  refine x_iload_n C dX12_law_0 rfl 1 rfl rfl ?_
  refine x_iconst C (v := 1) dX12_law_1 (by decide) rfl ?_
  refine x_sipush C (v := 240) dX12_law_2 (by decide) rfl ?_
  refine x_si C (As := [.int p0, .int 1, .int 240]) (rest := []) (m_in E l a cd hG ws hW p0 (1 : Int32) (240 : Int32)) mf_X12_in w_1267 rfl rfl (Nat.le_of_ble_eq_true rfl) ⟨(Nat.le_of_ble_eq_true rfl), (Nat.le_of_ble_eq_true rfl)⟩ ⟨(Nat.le_of_ble_eq_true rfl), (Nat.le_of_ble_eq_true rfl)⟩ dX12_law_5 rfl (fun r30 w31 h29 => ?_)
  obtain ⟨hW32, zb33, x34⟩ := h29
  refine x_ws hW32 ?_
  refine x_if_eq C (tgt := 19) dX12_law_8 (by decide) rfl (fun c35 => ?_) (fun c35 => ?_)
  · skip
    refine x_iconst C (v := (-1)) dX12_law_19 (by decide) rfl ?_
    exact x_zret C hr hlk rfl dX12_law_20 ⟨cd, hG, hW⟩
  · skip
    obtain ⟨j36, hl37, hh38, ej39⟩ := w_nat (a := 1) (b := 240) (by decide) (by decide) (x34 c35)
    subst ej39
    refine x_iload_n C dX12_law_11 rfl 1 rfl rfl ?_
    refine x_aload_n C dX12_law_12 rfl 0 rfl rfl ?_
    refine x_get C (ci := 11) (k := 4) 0 k1 rfl in_X12 (by decide) w_1122 rfl dX12_law_13 rfl ?_
    refine x_icmp_le C (tgt := 21) dX12_law_16 (by decide) rfl (fun c40 => ?_) (fun c40 => ?_)
    · skip
      have nf41 := nI_le' (a := j36) (b := n2) c40 (by omega) (by omega)
      refine x_aload_n C dX12_law_21 rfl 0 rfl rfl ?_
      refine x_iconst C (v := 0) dX12_law_22 (by decide) rfl ?_
      obtain ⟨w42, hw43⟩ : ∃ w : va_W, w = List.set ws 0 (ob (a 0) 11 [.ref (a 1), .ref (a 2), .ref (a 3), .ref (a 4), .int (nI n2), .int 0, .int (nI n6), .int v8, .int v9, .int v10, .int (nI n11), .int (nI n13), .int (nI n15), .int (nI (cd.2.2.2.2.2)), .ref (a 5), .ref (a 6), .ref (a 7), .ref (a 8), .ref (a 9), .ref (a 10), .ref (a 11), .ref (a 12), .ref (a 13), .ref (a 14), .ref (a 15), .ref (a 16), .ref (a 17), .int (nI n17), .ref (a 18), .ref (a 19), .ref (a 20), .ref (a 21), .int v19, .int v20, .int v21, .int v22, .int (nI n23), .int (nI n25), .ref (a 22), .ref (a 23), .ref (a 24), .ref (a 25), .ref (a 26), .ref (a 27), .ref (a 28), .ref (a 29), .ref (a 30), .int v27]) := ⟨_, rfl⟩
      refine x_put C (ci := 11) (k := 5) (ty := .int) 0 k1 rfl in_X12 tyX12 tyX12_ok nmX12 (by decide) w_1123 rfl rfl rfl rfl (Nat.le_of_ble_eq_true rfl) hw43.symm dX12_law_23 rfl ?_
      have hW44 : WX (okM E a cd) w42 := by rw [hw43]; exact hW.set (k := 0) rfl ⟨n2, 0, n6, v8, v9, v10, n11, n13, n15, n17, v19, v20, v21, v22, n23, n25, v27, by omega, by omega, by omega, by omega, by omega, by omega, by omega, by omega, by omega, zv28, rfl⟩
      have k45 : w42[0]? = some (ob (a 0) 11 [.ref (a 1), .ref (a 2), .ref (a 3), .ref (a 4), .int (nI n2), .int 0, .int (nI n6), .int v8, .int v9, .int v10, .int (nI n11), .int (nI n13), .int (nI n15), .int (nI (cd.2.2.2.2.2)), .ref (a 5), .ref (a 6), .ref (a 7), .ref (a 8), .ref (a 9), .ref (a 10), .ref (a 11), .ref (a 12), .ref (a 13), .ref (a 14), .ref (a 15), .ref (a 16), .ref (a 17), .int (nI n17), .ref (a 18), .ref (a 19), .ref (a 20), .ref (a 21), .int v19, .int v20, .int v21, .int v22, .int (nI n23), .int (nI n25), .ref (a 22), .ref (a 23), .ref (a 24), .ref (a 25), .ref (a 26), .ref (a 27), .ref (a 28), .ref (a 29), .ref (a 30), .int v27]) := by rw [hw43]; exact set_eq k1
      refine x_aload_n C dX12_law_26 rfl 0 rfl rfl ?_
      refine x_iload_n C dX12_law_27 rfl 1 rfl rfl ?_
      obtain ⟨w46, hw47⟩ : ∃ w : va_W, w = List.set w42 0 (ob (a 0) 11 [.ref (a 1), .ref (a 2), .ref (a 3), .ref (a 4), .int (nI n2), .int 0, .int (nI j36), .int v8, .int v9, .int v10, .int (nI n11), .int (nI n13), .int (nI n15), .int (nI (cd.2.2.2.2.2)), .ref (a 5), .ref (a 6), .ref (a 7), .ref (a 8), .ref (a 9), .ref (a 10), .ref (a 11), .ref (a 12), .ref (a 13), .ref (a 14), .ref (a 15), .ref (a 16), .ref (a 17), .int (nI n17), .ref (a 18), .ref (a 19), .ref (a 20), .ref (a 21), .int v19, .int v20, .int v21, .int v22, .int (nI n23), .int (nI n25), .ref (a 22), .ref (a 23), .ref (a 24), .ref (a 25), .ref (a 26), .ref (a 27), .ref (a 28), .ref (a 29), .ref (a 30), .int v27]) := ⟨_, rfl⟩
      refine x_put C (ci := 11) (k := 6) (ty := .int) 0 k45 rfl in_X12 tyX12 tyX12_ok nmX12 (by decide) w_1124 rfl rfl rfl rfl (Nat.le_of_ble_eq_true rfl) hw47.symm dX12_law_28 rfl ?_
      have hW48 : WX (okM E a cd) w46 := by rw [hw47]; exact hW44.set (k := 0) rfl ⟨n2, 0, j36, v8, v9, v10, n11, n13, n15, n17, v19, v20, v21, v22, n23, n25, v27, by omega, by omega, by omega, by omega, by omega, by omega, by omega, by omega, by omega, zv28, rfl⟩
      have k49 : w46[0]? = some (ob (a 0) 11 [.ref (a 1), .ref (a 2), .ref (a 3), .ref (a 4), .int (nI n2), .int 0, .int (nI j36), .int v8, .int v9, .int v10, .int (nI n11), .int (nI n13), .int (nI n15), .int (nI (cd.2.2.2.2.2)), .ref (a 5), .ref (a 6), .ref (a 7), .ref (a 8), .ref (a 9), .ref (a 10), .ref (a 11), .ref (a 12), .ref (a 13), .ref (a 14), .ref (a 15), .ref (a 16), .ref (a 17), .int (nI n17), .ref (a 18), .ref (a 19), .ref (a 20), .ref (a 21), .int v19, .int v20, .int v21, .int v22, .int (nI n23), .int (nI n25), .ref (a 22), .ref (a 23), .ref (a 24), .ref (a 25), .ref (a 26), .ref (a 27), .ref (a 28), .ref (a 29), .ref (a 30), .int v27]) := by rw [hw47]; exact set_eq k45
      refine x_aload_n C dX12_law_31 rfl 0 rfl rfl ?_
      refine x_iconst C (v := 0) dX12_law_32 (by decide) rfl ?_
      obtain ⟨w50, hw51⟩ : ∃ w : va_W, w = List.set w46 0 (ob (a 0) 11 [.ref (a 1), .ref (a 2), .ref (a 3), .ref (a 4), .int (nI n2), .int 0, .int (nI j36), .int v8, .int v9, .int v10, .int 0, .int (nI n13), .int (nI n15), .int (nI (cd.2.2.2.2.2)), .ref (a 5), .ref (a 6), .ref (a 7), .ref (a 8), .ref (a 9), .ref (a 10), .ref (a 11), .ref (a 12), .ref (a 13), .ref (a 14), .ref (a 15), .ref (a 16), .ref (a 17), .int (nI n17), .ref (a 18), .ref (a 19), .ref (a 20), .ref (a 21), .int v19, .int v20, .int v21, .int v22, .int (nI n23), .int (nI n25), .ref (a 22), .ref (a 23), .ref (a 24), .ref (a 25), .ref (a 26), .ref (a 27), .ref (a 28), .ref (a 29), .ref (a 30), .int v27]) := ⟨_, rfl⟩
      refine x_put C (ci := 11) (k := 10) (ty := .int) 0 k49 rfl in_X12 tyX12 tyX12_ok nmX12 (by decide) w_1128 rfl rfl rfl rfl (Nat.le_of_ble_eq_true rfl) hw51.symm dX12_law_33 rfl ?_
      have hW52 : WX (okM E a cd) w50 := by rw [hw51]; exact hW48.set (k := 0) rfl ⟨n2, 0, j36, v8, v9, v10, 0, n13, n15, n17, v19, v20, v21, v22, n23, n25, v27, by omega, by omega, by omega, by omega, by omega, by omega, by omega, by omega, by omega, zv28, rfl⟩
      have k53 : w50[0]? = some (ob (a 0) 11 [.ref (a 1), .ref (a 2), .ref (a 3), .ref (a 4), .int (nI n2), .int 0, .int (nI j36), .int v8, .int v9, .int v10, .int 0, .int (nI n13), .int (nI n15), .int (nI (cd.2.2.2.2.2)), .ref (a 5), .ref (a 6), .ref (a 7), .ref (a 8), .ref (a 9), .ref (a 10), .ref (a 11), .ref (a 12), .ref (a 13), .ref (a 14), .ref (a 15), .ref (a 16), .ref (a 17), .int (nI n17), .ref (a 18), .ref (a 19), .ref (a 20), .ref (a 21), .int v19, .int v20, .int v21, .int v22, .int (nI n23), .int (nI n25), .ref (a 22), .ref (a 23), .ref (a 24), .ref (a 25), .ref (a 26), .ref (a 27), .ref (a 28), .ref (a 29), .ref (a 30), .int v27]) := by rw [hw51]; exact set_eq k49
      refine x_aload_n C dX12_law_36 rfl 0 rfl rfl ?_
      refine x_iconst C (v := 0) dX12_law_37 (by decide) rfl ?_
      obtain ⟨w54, hw55⟩ : ∃ w : va_W, w = List.set w50 0 (ob (a 0) 11 [.ref (a 1), .ref (a 2), .ref (a 3), .ref (a 4), .int (nI n2), .int 0, .int (nI j36), .int v8, .int v9, .int v10, .int 0, .int (nI n13), .int 0, .int (nI (cd.2.2.2.2.2)), .ref (a 5), .ref (a 6), .ref (a 7), .ref (a 8), .ref (a 9), .ref (a 10), .ref (a 11), .ref (a 12), .ref (a 13), .ref (a 14), .ref (a 15), .ref (a 16), .ref (a 17), .int (nI n17), .ref (a 18), .ref (a 19), .ref (a 20), .ref (a 21), .int v19, .int v20, .int v21, .int v22, .int (nI n23), .int (nI n25), .ref (a 22), .ref (a 23), .ref (a 24), .ref (a 25), .ref (a 26), .ref (a 27), .ref (a 28), .ref (a 29), .ref (a 30), .int v27]) := ⟨_, rfl⟩
      refine x_put C (ci := 11) (k := 12) (ty := .int) 0 k53 rfl in_X12 tyX12 tyX12_ok nmX12 (by decide) w_1130 rfl rfl rfl rfl (Nat.le_of_ble_eq_true rfl) hw55.symm dX12_law_38 rfl ?_
      have hW56 : WX (okM E a cd) w54 := by rw [hw55]; exact hW52.set (k := 0) rfl ⟨n2, 0, j36, v8, v9, v10, 0, n13, 0, n17, v19, v20, v21, v22, n23, n25, v27, by omega, by omega, by omega, by omega, by omega, by omega, by omega, by omega, by omega, zv28, rfl⟩
      have k57 : w54[0]? = some (ob (a 0) 11 [.ref (a 1), .ref (a 2), .ref (a 3), .ref (a 4), .int (nI n2), .int 0, .int (nI j36), .int v8, .int v9, .int v10, .int 0, .int (nI n13), .int 0, .int (nI (cd.2.2.2.2.2)), .ref (a 5), .ref (a 6), .ref (a 7), .ref (a 8), .ref (a 9), .ref (a 10), .ref (a 11), .ref (a 12), .ref (a 13), .ref (a 14), .ref (a 15), .ref (a 16), .ref (a 17), .int (nI n17), .ref (a 18), .ref (a 19), .ref (a 20), .ref (a 21), .int v19, .int v20, .int v21, .int v22, .int (nI n23), .int (nI n25), .ref (a 22), .ref (a 23), .ref (a 24), .ref (a 25), .ref (a 26), .ref (a 27), .ref (a 28), .ref (a 29), .ref (a 30), .int v27]) := by rw [hw55]; exact set_eq k53
      obtain ⟨_, k58, f59, rfl⟩ := hW56 4 _ rfl
      obtain ⟨_, k60, f61, rfl⟩ := hW56 5 _ rfl
      obtain ⟨_, k62, f63, rfl⟩ := hW56 6 _ rfl
      obtain ⟨_, k64, f65, rfl⟩ := hW56 8 _ rfl
      obtain ⟨_, k66, f67, rfl⟩ := hW56 9 _ rfl
      obtain ⟨_, k68, f69, rfl⟩ := hW56 10 _ rfl
      refine x_aload_n C dX12_law_41 rfl 0 rfl rfl ?_
      refine x_vi C (As := []) (rest := []) (m_readsClause E l a cd hG w54 hW56 n2 0 j36 0 n13 0 n17 v9 ⟨v8, v10, v19, v20, v21, v22, v27, n23, n25, ⟨by omega, by omega, by omega, by omega, by omega, by omega, by omega⟩, ⟨by omega, by omega⟩, zv28, k57⟩ f59 k58 (by omega) f61 k60 f63 k62 f65 k64 f67 k66 f69 k68 (by omega) (fun q hq => absurd hq (by omega))) mf_X12_readsClause w_1313 0 k57 rfl rfl rfl (Nat.le_of_ble_eq_true rfl) ⟨(Nat.le_of_ble_eq_true rfl), (Nat.le_of_ble_eq_true rfl)⟩ ⟨(Nat.le_of_ble_eq_true rfl), (Nat.le_of_ble_eq_true rfl)⟩ dX12_law_42 rfl (fun r71 w72 h70 => ?_)
      obtain ⟨hW73, kq74, zb75, x76⟩ := h70
      have k77 : w72[4]? = some (bA E (a 4) 260 f59) := keeps_at kq74 k58 (by first | decide | omega | (dsimp only; omega))
      rcases x76 with ⟨e78, rf79⟩ | ⟨e80, pl81, cm82, wt83, fs84, fw85, g886, g987, g1088, hq89, hq90, hq91, hq92, hq93, hq94, hq95, hq96⟩
      · refine x_top e78 ?_
        obtain ⟨pl97, cm98, wt99, fs100, fw101, rs102⟩ := rf79
        obtain ⟨⟨nu103, mo104⟩, k105, k106⟩ := rs102
        obtain ⟨v107, v108, v109, v110, v111, v112, v113, n114, n115, bo116, bo117, zb118, k119⟩ := mo104
        refine x_istore_n C (lv' := [(2, .int 0), (0, .ref (a 0)), (1, .int (nI j36))]) dX12_law_45 rfl (by decide) rfl rfl ?_
        refine x_iload_n C dX12_law_46 rfl 0 rfl rfl ?_
        refine x_if_eq C (tgt := 86) dX12_law_47 (by decide) rfl (fun _ => ?_) (fun h => absurd h (by decide))
        refine x_aload_n C dX12_law_86 rfl 1 rfl rfl ?_
        refine x_iconst C (v := 0) dX12_law_87 (by decide) rfl ?_
        obtain ⟨w120, hw121⟩ : ∃ w : va_W, w = List.set w72 0 (ob (a 0) 11 [.ref (a 1), .ref (a 2), .ref (a 3), .ref (a 4), .int 0, .int (nI pl97), .int (nI j36), .int v107, .int nu103, .int v108, .int (nI cm98), .int (nI wt99), .int (nI 0), .int (nI (cd.2.2.2.2.2)), .ref (a 5), .ref (a 6), .ref (a 7), .ref (a 8), .ref (a 9), .ref (a 10), .ref (a 11), .ref (a 12), .ref (a 13), .ref (a 14), .ref (a 15), .ref (a 16), .ref (a 17), .int (nI n17), .ref (a 18), .ref (a 19), .ref (a 20), .ref (a 21), .int v109, .int v110, .int v111, .int v112, .int (nI n114), .int (nI n115), .ref (a 22), .ref (a 23), .ref (a 24), .ref (a 25), .ref (a 26), .ref (a 27), .ref (a 28), .ref (a 29), .ref (a 30), .int v113]) := ⟨_, rfl⟩
        refine x_put C (ci := 11) (k := 4) (ty := .int) 0 k119 rfl in_X12 tyX12 tyX12_ok nmX12 (by decide) w_1122 rfl rfl rfl rfl (Nat.le_of_ble_eq_true rfl) hw121.symm dX12_law_88 rfl ?_
        have hW122 : WX (okM E a cd) w120 := by rw [hw121]; exact hW73.set (k := 0) rfl ⟨0, pl97, j36, v107, nu103, v108, cm98, wt99, 0, n17, v109, v110, v111, v112, n114, n115, v113, by omega, by omega, by omega, by omega, by omega, by omega, by omega, by omega, by omega, zb118, rfl⟩
        have k123 : w120[4]? = some (bA E (a 4) 260 f59) := by rw [hw121]; exact set_ne k77 (by decide)
        have k124 : w120[0]? = some (ob (a 0) 11 [.ref (a 1), .ref (a 2), .ref (a 3), .ref (a 4), .int 0, .int (nI pl97), .int (nI j36), .int v107, .int nu103, .int v108, .int (nI cm98), .int (nI wt99), .int (nI 0), .int (nI (cd.2.2.2.2.2)), .ref (a 5), .ref (a 6), .ref (a 7), .ref (a 8), .ref (a 9), .ref (a 10), .ref (a 11), .ref (a 12), .ref (a 13), .ref (a 14), .ref (a 15), .ref (a 16), .ref (a 17), .int (nI n17), .ref (a 18), .ref (a 19), .ref (a 20), .ref (a 21), .int v109, .int v110, .int v111, .int v112, .int (nI n114), .int (nI n115), .ref (a 22), .ref (a 23), .ref (a 24), .ref (a 25), .ref (a 26), .ref (a 27), .ref (a 28), .ref (a 29), .ref (a 30), .int v113]) := by rw [hw121]; exact set_eq k119
        have k125 : w120[5]? = some (iA E (a 5) 260 fs100) := by rw [hw121]; exact set_ne k105 (by decide)
        have k126 : w120[6]? = some (iA E (a 6) 260 fw101) := by rw [hw121]; exact set_ne k106 (by decide)
        refine x_iload_n C dX12_law_91 rfl 0 rfl rfl ?_
        refine x_if_ne C (tgt := 100) dX12_law_92 (by decide) rfl (fun h => absurd h (by decide)) (fun _ => ?_)
        refine x_aload_n C dX12_law_95 rfl 1 rfl rfl ?_
        refine x_get C (ci := 11) (k := 7) 0 k124 rfl in_X12 (by decide) w_1125 rfl dX12_law_96 rfl ?_
        exact x_zret C hr hlk rfl dX12_law_99 ⟨cd, hG, hW122⟩
      · refine x_top e80 ?_
        obtain ⟨⟨nu127, mo128⟩, k129, k130⟩ := hq91
        obtain ⟨v131, v132, v133, v134, v135, v136, v137, n138, n139, bo140, bo141, zb142, k143⟩ := mo128
        refine x_istore_n C (lv' := [(2, .int 1), (0, .ref (a 0)), (1, .int (nI j36))]) dX12_law_45 rfl (by decide) rfl rfl ?_
        have loop46 : ∀ (fu46 : Nat) (px : Nat) (cx : Nat) (wx : Nat) (sx : Nat) (nz : Int32) (fx : Nat → Int32) (gx : Nat → Int32) (f8x : Nat → Int32) (f9x : Nat → Int32) (f10x : Nat → Int32) (wl46 : va_W), WX (okM E a cd) wl46 → j36 - px < fu46 → MO a cd wl46 n2 px j36 cx wx sx n17 nz → wl46[4]? = some (bA E (a 4) 260 f59) → wl46[5]? = some (iA E (a 5) 260 fx) → wl46[6]? = some (iA E (a 6) 260 gx) → wl46[8]? = some (iA E (a 8) 16 f8x) → wl46[9]? = some (iA E (a 9) 16 f9x) → wl46[10]? = some (iA E (a 10) 16 f10x) → KL fx f8x f9x f10x sx cx → cx ≤ px ∧ px ≤ j36 → X E p l e (xRm 10 0 0) s m ([.ref (a 0), .int (nI j36)] : List Value).toArray below meth c A 4 0 0 (MQ below (va_Qi (fun r w => ∃ cd2 : Cd, Good cd2 ∧ WX (okM E a cd2) w) (xB E A) A) ([.ref (a 0), .int (nI j36)] : List Value).toArray s 0 0 A) wl46 46 [(0, .ref (a 0)), (1, .int (nI j36)), (2, .int 1)] [] := by
          intro fu46
          induction fu46 with
          | zero => intro px cx wx sx nz fx gx f8x f9x f10x wl46 _ q; omega
          | succ fu46 ih46 =>
            intro px cx wx sx nz fx gx f8x f9x f10x wl46 hWl46 me46 iv46_0 iv46_1 iv46_2 iv46_3 iv46_4 iv46_5 iv46_6 iv46_7 iv46_8
            obtain ⟨v144, v145, v146, v147, v148, v149, v150, n151, n152, bo153, bo154, zb155, k156⟩ := iv46_0
            refine x_iload_n C dX12_law_46 rfl 2 rfl rfl ?_
            refine x_if_eq C (tgt := 86) dX12_law_47 (by decide) rfl (fun h => absurd h (by decide)) (fun _ => ?_)
            refine x_aload_n C dX12_law_50 rfl 0 rfl rfl ?_
            refine x_get C (ci := 11) (k := 5) 0 k156 rfl in_X12 (by decide) w_1123 rfl dX12_law_51 rfl ?_
            refine x_aload_n C dX12_law_54 rfl 0 rfl rfl ?_
            refine x_get C (ci := 11) (k := 6) 0 k156 rfl in_X12 (by decide) w_1124 rfl dX12_law_55 rfl ?_
            refine x_icmp_ge C (tgt := 86) dX12_law_58 (by decide) rfl (fun c157 => ?_) (fun c157 => ?_)
            · skip
              have nf158 := nI_le' (a := j36) (b := px) c157 (by omega) (by omega)
              refine x_aload_n C dX12_law_86 rfl 0 rfl rfl ?_
              refine x_iconst C (v := 0) dX12_law_87 (by decide) rfl ?_
              obtain ⟨w159, hw160⟩ : ∃ w : va_W, w = List.set wl46 0 (ob (a 0) 11 [.ref (a 1), .ref (a 2), .ref (a 3), .ref (a 4), .int 0, .int (nI px), .int (nI j36), .int v144, .int nz, .int v145, .int (nI cx), .int (nI wx), .int (nI sx), .int (nI (cd.2.2.2.2.2)), .ref (a 5), .ref (a 6), .ref (a 7), .ref (a 8), .ref (a 9), .ref (a 10), .ref (a 11), .ref (a 12), .ref (a 13), .ref (a 14), .ref (a 15), .ref (a 16), .ref (a 17), .int (nI n17), .ref (a 18), .ref (a 19), .ref (a 20), .ref (a 21), .int v146, .int v147, .int v148, .int v149, .int (nI n151), .int (nI n152), .ref (a 22), .ref (a 23), .ref (a 24), .ref (a 25), .ref (a 26), .ref (a 27), .ref (a 28), .ref (a 29), .ref (a 30), .int v150]) := ⟨_, rfl⟩
              refine x_put C (ci := 11) (k := 4) (ty := .int) 0 k156 rfl in_X12 tyX12 tyX12_ok nmX12 (by decide) w_1122 rfl rfl rfl rfl (Nat.le_of_ble_eq_true rfl) hw160.symm dX12_law_88 rfl ?_
              have hW161 : WX (okM E a cd) w159 := by rw [hw160]; exact hWl46.set (k := 0) rfl ⟨0, px, j36, v144, nz, v145, cx, wx, sx, n17, v146, v147, v148, v149, n151, n152, v150, by omega, by omega, by omega, by omega, by omega, by omega, by omega, by omega, by omega, zb155, rfl⟩
              have k162 : w159[0]? = some (ob (a 0) 11 [.ref (a 1), .ref (a 2), .ref (a 3), .ref (a 4), .int 0, .int (nI px), .int (nI j36), .int v144, .int nz, .int v145, .int (nI cx), .int (nI wx), .int (nI sx), .int (nI (cd.2.2.2.2.2)), .ref (a 5), .ref (a 6), .ref (a 7), .ref (a 8), .ref (a 9), .ref (a 10), .ref (a 11), .ref (a 12), .ref (a 13), .ref (a 14), .ref (a 15), .ref (a 16), .ref (a 17), .int (nI n17), .ref (a 18), .ref (a 19), .ref (a 20), .ref (a 21), .int v146, .int v147, .int v148, .int v149, .int (nI n151), .int (nI n152), .ref (a 22), .ref (a 23), .ref (a 24), .ref (a 25), .ref (a 26), .ref (a 27), .ref (a 28), .ref (a 29), .ref (a 30), .int v150]) := by rw [hw160]; exact set_eq k156
              have k163 : w159[4]? = some (bA E (a 4) 260 f59) := by rw [hw160]; exact set_ne iv46_1 (by decide)
              have k164 : w159[5]? = some (iA E (a 5) 260 fx) := by rw [hw160]; exact set_ne iv46_2 (by decide)
              have k165 : w159[6]? = some (iA E (a 6) 260 gx) := by rw [hw160]; exact set_ne iv46_3 (by decide)
              have k166 : w159[8]? = some (iA E (a 8) 16 f8x) := by rw [hw160]; exact set_ne iv46_4 (by decide)
              have k167 : w159[9]? = some (iA E (a 9) 16 f9x) := by rw [hw160]; exact set_ne iv46_5 (by decide)
              have k168 : w159[10]? = some (iA E (a 10) 16 f10x) := by rw [hw160]; exact set_ne iv46_6 (by decide)
              refine x_iload_n C dX12_law_91 rfl 2 rfl rfl ?_
              refine x_if_ne C (tgt := 100) dX12_law_92 (by decide) rfl (fun _ => ?_) (fun h => absurd h (by decide))
              refine x_aload_n C dX12_law_100 rfl 0 rfl rfl ?_
              refine x_aload_n C dX12_law_101 rfl 0 rfl rfl ?_
              refine x_get C (ci := 11) (k := 12) 0 k162 rfl in_X12 (by decide) w_1130 rfl dX12_law_102 rfl ?_
              obtain ⟨w169, hw170⟩ : ∃ w : va_W, w = List.set w159 0 (ob (a 0) 11 [.ref (a 1), .ref (a 2), .ref (a 3), .ref (a 4), .int 0, .int (nI px), .int (nI j36), .int v144, .int nz, .int v145, .int (nI cx), .int (nI wx), .int (nI sx), .int (nI sx), .ref (a 5), .ref (a 6), .ref (a 7), .ref (a 8), .ref (a 9), .ref (a 10), .ref (a 11), .ref (a 12), .ref (a 13), .ref (a 14), .ref (a 15), .ref (a 16), .ref (a 17), .int (nI n17), .ref (a 18), .ref (a 19), .ref (a 20), .ref (a 21), .int v146, .int v147, .int v148, .int v149, .int (nI n151), .int (nI n152), .ref (a 22), .ref (a 23), .ref (a 24), .ref (a 25), .ref (a 26), .ref (a 27), .ref (a 28), .ref (a 29), .ref (a 30), .int v150]) := ⟨_, rfl⟩
              refine x_put C (ci := 11) (k := 13) (ty := .int) 0 k162 rfl in_X12 tyX12 tyX12_ok nmX12 (by decide) w_1131 rfl rfl rfl rfl (Nat.le_of_ble_eq_true rfl) hw170.symm dX12_law_105 rfl ?_
              have k171 : w169[0]? = some (ob (a 0) 11 [.ref (a 1), .ref (a 2), .ref (a 3), .ref (a 4), .int 0, .int (nI px), .int (nI j36), .int v144, .int nz, .int v145, .int (nI cx), .int (nI wx), .int (nI sx), .int (nI sx), .ref (a 5), .ref (a 6), .ref (a 7), .ref (a 8), .ref (a 9), .ref (a 10), .ref (a 11), .ref (a 12), .ref (a 13), .ref (a 14), .ref (a 15), .ref (a 16), .ref (a 17), .int (nI n17), .ref (a 18), .ref (a 19), .ref (a 20), .ref (a 21), .int v146, .int v147, .int v148, .int v149, .int (nI n151), .int (nI n152), .ref (a 22), .ref (a 23), .ref (a 24), .ref (a 25), .ref (a 26), .ref (a 27), .ref (a 28), .ref (a 29), .ref (a 30), .int v150]) := by rw [hw170]; exact set_eq k162
              have hW172 : WX (okM E a (cd.1, cd.2.1, cd.2.2.1, cd.2.2.2.1, cd.2.2.2.2.1, sx)) w169 := by rw [hw170]; exact wx_cl hW161 (set_eq k162) (show MO a (cd.1, cd.2.1, cd.2.2.1, cd.2.2.2.1, cd.2.2.2.2.1, sx) _ 0 px j36 cx wx sx n17 nz from ⟨v144, v145, v146, v147, v148, v149, v150, n151, n152, ⟨by omega, by omega, by omega, by omega, by omega, by omega, by omega⟩, ⟨by omega, by omega⟩, zb155, (set_eq k162)⟩)
              have k173 : w169[4]? = some (bA E (a 4) 260 f59) := by rw [hw170]; exact set_ne k163 (by decide)
              have k174 : w169[5]? = some (iA E (a 5) 260 fx) := by rw [hw170]; exact set_ne k164 (by decide)
              have k175 : w169[6]? = some (iA E (a 6) 260 gx) := by rw [hw170]; exact set_ne k165 (by decide)
              have k176 : w169[8]? = some (iA E (a 8) 16 f8x) := by rw [hw170]; exact set_ne k166 (by decide)
              have k177 : w169[9]? = some (iA E (a 9) 16 f9x) := by rw [hw170]; exact set_ne k167 (by decide)
              have k178 : w169[10]? = some (iA E (a 10) 16 f10x) := by rw [hw170]; exact set_ne k168 (by decide)
              refine x_iconst C (v := 0) dX12_law_108 (by decide) rfl ?_
              refine x_istore_n C (lv' := [(3, .int 0), (0, .ref (a 0)), (1, .int (nI j36)), (2, .int 1)]) dX12_law_109 rfl (by decide) rfl rfl ?_
              have loop110 : ∀ (fu110 : Nat) (k : Nat) (cv : Cd) (wl110 : va_W), WX (okM E a cv) wl110 → cx - k < fu110 → MO a cv wl110 0 px j36 cx wx sx n17 nz → wl110[5]? = some (iA E (a 5) 260 fx) → wl110[8]? = some (iA E (a 8) 16 f8x) → wl110[9]? = some (iA E (a 9) 16 f9x) → wl110[10]? = some (iA E (a 10) 16 f10x) → cv.2 = (cd.1, cd.2.1, cd.2.2.1, cd.2.2.2.1, cd.2.2.2.2.1, sx).2 → (∀ j, j < k → cv.1 j = fx j) → k ≤ cx → X E p l e (xRm 10 0 0) s m ([.ref (a 0), .int (nI j36)] : List Value).toArray below meth c A 4 0 0 (MQ below (va_Qi (fun r w => ∃ cd2 : Cd, Good cd2 ∧ WX (okM E a cd2) w) (xB E A) A) ([.ref (a 0), .int (nI j36)] : List Value).toArray s 0 0 A) wl110 110 [(0, .ref (a 0)), (1, .int (nI j36)), (2, .int 1), (3, .int (nI k))] [] := by
                intro fu110
                induction fu110 with
                | zero => intro k cv wl110 _ q; omega
                | succ fu110 ih110 =>
                  intro k cv wl110 hWl110 me110 iv110_0 iv110_1 iv110_2 iv110_3 iv110_4 iv110_5 iv110_6 iv110_7
                  obtain ⟨v179, v180, v181, v182, v183, v184, v185, n186, n187, bo188, bo189, zb190, k191⟩ := iv110_0
                  refine x_iload_n C dX12_law_110 rfl 3 rfl rfl ?_
                  refine x_aload_n C dX12_law_111 rfl 0 rfl rfl ?_
                  refine x_get C (ci := 11) (k := 10) 0 k191 rfl in_X12 (by decide) w_1128 rfl dX12_law_112 rfl ?_
                  refine x_icmp_ge C (tgt := 136) dX12_law_115 (by decide) rfl (fun c192 => ?_) (fun c192 => ?_)
                  · skip
                    have nf193 := nI_le' (a := cx) (b := k) c192 (by omega) (by omega)
                    refine x_iconst C (v := 0) dX12_law_136 (by decide) rfl ?_
                    refine x_istore_n C (lv' := [(3, .int 0), (0, .ref (a 0)), (1, .int (nI j36)), (2, .int 1)]) dX12_law_137 rfl (by decide) rfl rfl ?_
                    have loop138 : ∀ (fu138 : Nat) (q : Nat) (cu : Cd) (wl138 : va_W), WX (okM E a cu) wl138 → sx - q < fu138 → MO a cu wl138 0 px j36 cx wx sx n17 nz → wl138[8]? = some (iA E (a 8) 16 f8x) → wl138[9]? = some (iA E (a 9) 16 f9x) → wl138[10]? = some (iA E (a 10) 16 f10x) → cu.1 = cv.1 → cu.2.2.2.2.2 = sx → (∀ j, j < q → cu.2.2.1 j = f8x j) → (∀ j, j < q → cu.2.2.2.1 j = f9x j) → (∀ j, j < q → cu.2.2.2.2.1 j = f10x j) → q ≤ sx → X E p l e (xRm 10 0 0) s m ([.ref (a 0), .int (nI j36)] : List Value).toArray below meth c A 4 0 0 (MQ below (va_Qi (fun r w => ∃ cd2 : Cd, Good cd2 ∧ WX (okM E a cd2) w) (xB E A) A) ([.ref (a 0), .int (nI j36)] : List Value).toArray s 0 0 A) wl138 138 [(0, .ref (a 0)), (1, .int (nI j36)), (2, .int 1), (3, .int (nI q))] [] := by
                      intro fu138
                      induction fu138 with
                      | zero => intro q cu wl138 _ q; omega
                      | succ fu138 ih138 =>
                        intro q cu wl138 hWl138 me138 iv138_0 iv138_1 iv138_2 iv138_3 iv138_4 iv138_5 iv138_6 iv138_7 iv138_8 iv138_9
                        obtain ⟨v194, v195, v196, v197, v198, v199, v200, n201, n202, bo203, bo204, zb205, k206⟩ := iv138_0
                        refine x_iload_n C dX12_law_138 rfl 3 rfl rfl ?_
                        refine x_aload_n C dX12_law_139 rfl 0 rfl rfl ?_
                        refine x_get C (ci := 11) (k := 12) 0 k206 rfl in_X12 (by decide) w_1130 rfl dX12_law_140 rfl ?_
                        refine x_icmp_ge C (tgt := 200) dX12_law_143 (by decide) rfl (fun c207 => ?_) (fun c207 => ?_)
                        · skip
                          have nf208 := nI_le' (a := sx) (b := q) c207 (by omega) (by omega)
                          refine x_aload_n C dX12_law_200 rfl 0 rfl rfl ?_
                          refine x_get C (ci := 11) (k := 12) 0 k206 rfl in_X12 (by decide) w_1130 rfl dX12_law_201 rfl ?_
                          exact x_zret C hr hlk rfl dX12_law_204 ⟨cu, Good_of iv46_7 (by omega) iv138_5 (fun k9 h9 => by rw [iv138_4]; exact iv110_6 k9 (by omega)) (fun q9 h9 => iv138_6 q9 (by omega)) (fun q9 h9 => iv138_7 q9 (by omega)) (fun q9 h9 => iv138_8 q9 (by omega)), hWl138⟩
                        · skip
                          have nf209 := nI_nle' (a := sx) (b := q) c207 (by omega) (by omega)
                          refine x_aload_n C dX12_law_146 rfl 0 rfl rfl ?_
                          refine x_get C (ci := 11) (k := 21) 0 k206 rfl in_X12 (by decide) w_1139 rfl dX12_law_147 rfl ?_
                          refine x_iload_n C dX12_law_150 rfl 3 rfl rfl ?_
                          refine x_aload_n C dX12_law_151 rfl 0 rfl rfl ?_
                          refine x_get C (ci := 11) (k := 16) 0 k206 rfl in_X12 (by decide) w_1134 rfl dX12_law_152 rfl ?_
                          refine x_iload_n C dX12_law_155 rfl 3 rfl rfl ?_
                          obtain ⟨_, k210, f211, rfl⟩ := hWl138 7 _ rfl
                          refine x_iald C (v := (f211 (nI q).toNatClampNeg)) 7 k210 (vp_in_nI (by omega) (by decide)) rfl dX12_law_156 rfl ?_
                          refine x_any (fun v212 => ?_)
                          obtain ⟨_, k213, rfl⟩ := hWl138 12 _ rfl
                          obtain ⟨w214, hw215⟩ : ∃ w : va_W, w = List.set wl138 12 (iA E (a 12) 16 (upd cu.2.1 q v212)) := ⟨_, rfl⟩
                          refine x_iask C q (nI_clamp (by omega)) (nI_pos (by omega)) (by omega) 12 k213 hw215.symm dX12_law_157 rfl ?_
                          have k216 : w214[12]? = some (iA E (a 12) 16 (upd cu.2.1 q v212)) := by rw [hw215]; exact set_eq k213
                          have hW217 : WX (okM E a (cu.1, (upd cu.2.1 q v212), cu.2.2)) w214 := by rw [hw215]; exact wx_12 _ hWl138
                          have k218 : w214[0]? = some (ob (a 0) 11 [.ref (a 1), .ref (a 2), .ref (a 3), .ref (a 4), .int (nI 0), .int (nI px), .int (nI j36), .int v194, .int nz, .int v195, .int (nI cx), .int (nI wx), .int (nI sx), .int (nI (cu.2.2.2.2.2)), .ref (a 5), .ref (a 6), .ref (a 7), .ref (a 8), .ref (a 9), .ref (a 10), .ref (a 11), .ref (a 12), .ref (a 13), .ref (a 14), .ref (a 15), .ref (a 16), .ref (a 17), .int (nI n17), .ref (a 18), .ref (a 19), .ref (a 20), .ref (a 21), .int v196, .int v197, .int v198, .int v199, .int (nI n201), .int (nI n202), .ref (a 22), .ref (a 23), .ref (a 24), .ref (a 25), .ref (a 26), .ref (a 27), .ref (a 28), .ref (a 29), .ref (a 30), .int v200]) := by rw [hw215]; exact set_ne k206 (by decide)
                          have k219 : w214[8]? = some (iA E (a 8) 16 f8x) := by rw [hw215]; exact set_ne iv138_1 (by decide)
                          have k220 : w214[9]? = some (iA E (a 9) 16 f9x) := by rw [hw215]; exact set_ne iv138_2 (by decide)
                          have k221 : w214[10]? = some (iA E (a 10) 16 f10x) := by rw [hw215]; exact set_ne iv138_3 (by decide)
                          have k222 : w214[7]? = some (iA E (a 7) 16 f211) := by rw [hw215]; exact set_ne k210 (by decide)
                          refine x_aload_n C dX12_law_158 rfl 0 rfl rfl ?_
                          refine x_get C (ci := 11) (k := 22) 0 k218 rfl in_X12 (by decide) w_1140 rfl dX12_law_159 rfl ?_
                          refine x_iload_n C dX12_law_162 rfl 3 rfl rfl ?_
                          refine x_aload_n C dX12_law_163 rfl 0 rfl rfl ?_
                          refine x_get C (ci := 11) (k := 17) 0 k218 rfl in_X12 (by decide) w_1135 rfl dX12_law_164 rfl ?_
                          refine x_iload_n C dX12_law_167 rfl 3 rfl rfl ?_
                          refine x_ialk C (v := (f8x q)) q (nI_clamp (by omega)) (nI_pos (by omega)) (by omega) 8 k219 rfl dX12_law_168 rfl ?_
                          obtain ⟨_, k223, rfl⟩ := hW217 13 _ rfl
                          obtain ⟨w224, hw225⟩ : ∃ w : va_W, w = List.set w214 13 (iA E (a 13) 16 (upd cu.2.2.1 q (f8x q))) := ⟨_, rfl⟩
                          refine x_iask C q (nI_clamp (by omega)) (nI_pos (by omega)) (by omega) 13 k223 hw225.symm dX12_law_169 rfl ?_
                          have k226 : w224[13]? = some (iA E (a 13) 16 (upd cu.2.2.1 q (f8x q))) := by rw [hw225]; exact set_eq k223
                          have hW227 : WX (okM E a (cu.1, (upd cu.2.1 q v212), (upd cu.2.2.1 q (f8x q)), cu.2.2.2)) w224 := by rw [hw225]; exact wx_13 _ hW217
                          have k228 : w224[0]? = some (ob (a 0) 11 [.ref (a 1), .ref (a 2), .ref (a 3), .ref (a 4), .int (nI 0), .int (nI px), .int (nI j36), .int v194, .int nz, .int v195, .int (nI cx), .int (nI wx), .int (nI sx), .int (nI (cu.2.2.2.2.2)), .ref (a 5), .ref (a 6), .ref (a 7), .ref (a 8), .ref (a 9), .ref (a 10), .ref (a 11), .ref (a 12), .ref (a 13), .ref (a 14), .ref (a 15), .ref (a 16), .ref (a 17), .int (nI n17), .ref (a 18), .ref (a 19), .ref (a 20), .ref (a 21), .int v196, .int v197, .int v198, .int v199, .int (nI n201), .int (nI n202), .ref (a 22), .ref (a 23), .ref (a 24), .ref (a 25), .ref (a 26), .ref (a 27), .ref (a 28), .ref (a 29), .ref (a 30), .int v200]) := by rw [hw225]; exact set_ne k218 (by decide)
                          have k229 : w224[8]? = some (iA E (a 8) 16 f8x) := by rw [hw225]; exact set_ne k219 (by decide)
                          have k230 : w224[9]? = some (iA E (a 9) 16 f9x) := by rw [hw225]; exact set_ne k220 (by decide)
                          have k231 : w224[10]? = some (iA E (a 10) 16 f10x) := by rw [hw225]; exact set_ne k221 (by decide)
                          have k232 : w224[7]? = some (iA E (a 7) 16 f211) := by rw [hw225]; exact set_ne k222 (by decide)
                          have k233 : w224[12]? = some (iA E (a 12) 16 (upd cu.2.1 q v212)) := by rw [hw225]; exact set_ne k216 (by decide)
                          refine x_aload_n C dX12_law_170 rfl 0 rfl rfl ?_
                          refine x_get C (ci := 11) (k := 23) 0 k228 rfl in_X12 (by decide) w_1141 rfl dX12_law_171 rfl ?_
                          refine x_iload_n C dX12_law_174 rfl 3 rfl rfl ?_
                          refine x_aload_n C dX12_law_175 rfl 0 rfl rfl ?_
                          refine x_get C (ci := 11) (k := 18) 0 k228 rfl in_X12 (by decide) w_1136 rfl dX12_law_176 rfl ?_
                          refine x_iload_n C dX12_law_179 rfl 3 rfl rfl ?_
                          refine x_ialk C (v := (f9x q)) q (nI_clamp (by omega)) (nI_pos (by omega)) (by omega) 9 k230 rfl dX12_law_180 rfl ?_
                          obtain ⟨_, k234, rfl⟩ := hW227 14 _ rfl
                          obtain ⟨w235, hw236⟩ : ∃ w : va_W, w = List.set w224 14 (iA E (a 14) 16 (upd cu.2.2.2.1 q (f9x q))) := ⟨_, rfl⟩
                          refine x_iask C q (nI_clamp (by omega)) (nI_pos (by omega)) (by omega) 14 k234 hw236.symm dX12_law_181 rfl ?_
                          have k237 : w235[14]? = some (iA E (a 14) 16 (upd cu.2.2.2.1 q (f9x q))) := by rw [hw236]; exact set_eq k234
                          have hW238 : WX (okM E a (cu.1, (upd cu.2.1 q v212), (upd cu.2.2.1 q (f8x q)), (upd cu.2.2.2.1 q (f9x q)), cu.2.2.2.2)) w235 := by rw [hw236]; exact wx_14 _ hW227
                          have k239 : w235[0]? = some (ob (a 0) 11 [.ref (a 1), .ref (a 2), .ref (a 3), .ref (a 4), .int (nI 0), .int (nI px), .int (nI j36), .int v194, .int nz, .int v195, .int (nI cx), .int (nI wx), .int (nI sx), .int (nI (cu.2.2.2.2.2)), .ref (a 5), .ref (a 6), .ref (a 7), .ref (a 8), .ref (a 9), .ref (a 10), .ref (a 11), .ref (a 12), .ref (a 13), .ref (a 14), .ref (a 15), .ref (a 16), .ref (a 17), .int (nI n17), .ref (a 18), .ref (a 19), .ref (a 20), .ref (a 21), .int v196, .int v197, .int v198, .int v199, .int (nI n201), .int (nI n202), .ref (a 22), .ref (a 23), .ref (a 24), .ref (a 25), .ref (a 26), .ref (a 27), .ref (a 28), .ref (a 29), .ref (a 30), .int v200]) := by rw [hw236]; exact set_ne k228 (by decide)
                          have k240 : w235[8]? = some (iA E (a 8) 16 f8x) := by rw [hw236]; exact set_ne k229 (by decide)
                          have k241 : w235[9]? = some (iA E (a 9) 16 f9x) := by rw [hw236]; exact set_ne k230 (by decide)
                          have k242 : w235[10]? = some (iA E (a 10) 16 f10x) := by rw [hw236]; exact set_ne k231 (by decide)
                          have k243 : w235[7]? = some (iA E (a 7) 16 f211) := by rw [hw236]; exact set_ne k232 (by decide)
                          have k244 : w235[12]? = some (iA E (a 12) 16 (upd cu.2.1 q v212)) := by rw [hw236]; exact set_ne k233 (by decide)
                          have k245 : w235[13]? = some (iA E (a 13) 16 (upd cu.2.2.1 q (f8x q))) := by rw [hw236]; exact set_ne k226 (by decide)
                          refine x_aload_n C dX12_law_182 rfl 0 rfl rfl ?_
                          refine x_get C (ci := 11) (k := 24) 0 k239 rfl in_X12 (by decide) w_1142 rfl dX12_law_183 rfl ?_
                          refine x_iload_n C dX12_law_186 rfl 3 rfl rfl ?_
                          refine x_aload_n C dX12_law_187 rfl 0 rfl rfl ?_
                          refine x_get C (ci := 11) (k := 19) 0 k239 rfl in_X12 (by decide) w_1137 rfl dX12_law_188 rfl ?_
                          refine x_iload_n C dX12_law_191 rfl 3 rfl rfl ?_
                          refine x_ialk C (v := (f10x q)) q (nI_clamp (by omega)) (nI_pos (by omega)) (by omega) 10 k242 rfl dX12_law_192 rfl ?_
                          obtain ⟨_, k246, rfl⟩ := hW238 15 _ rfl
                          obtain ⟨w247, hw248⟩ : ∃ w : va_W, w = List.set w235 15 (iA E (a 15) 16 (upd cu.2.2.2.2.1 q (f10x q))) := ⟨_, rfl⟩
                          refine x_iask C q (nI_clamp (by omega)) (nI_pos (by omega)) (by omega) 15 k246 hw248.symm dX12_law_193 rfl ?_
                          have k249 : w247[15]? = some (iA E (a 15) 16 (upd cu.2.2.2.2.1 q (f10x q))) := by rw [hw248]; exact set_eq k246
                          have hW250 : WX (okM E a (cu.1, (upd cu.2.1 q v212), (upd cu.2.2.1 q (f8x q)), (upd cu.2.2.2.1 q (f9x q)), (upd cu.2.2.2.2.1 q (f10x q)), cu.2.2.2.2.2)) w247 := by rw [hw248]; exact wx_15 _ hW238
                          have k251 : w247[0]? = some (ob (a 0) 11 [.ref (a 1), .ref (a 2), .ref (a 3), .ref (a 4), .int (nI 0), .int (nI px), .int (nI j36), .int v194, .int nz, .int v195, .int (nI cx), .int (nI wx), .int (nI sx), .int (nI (cu.2.2.2.2.2)), .ref (a 5), .ref (a 6), .ref (a 7), .ref (a 8), .ref (a 9), .ref (a 10), .ref (a 11), .ref (a 12), .ref (a 13), .ref (a 14), .ref (a 15), .ref (a 16), .ref (a 17), .int (nI n17), .ref (a 18), .ref (a 19), .ref (a 20), .ref (a 21), .int v196, .int v197, .int v198, .int v199, .int (nI n201), .int (nI n202), .ref (a 22), .ref (a 23), .ref (a 24), .ref (a 25), .ref (a 26), .ref (a 27), .ref (a 28), .ref (a 29), .ref (a 30), .int v200]) := by rw [hw248]; exact set_ne k239 (by decide)
                          have k252 : w247[8]? = some (iA E (a 8) 16 f8x) := by rw [hw248]; exact set_ne k240 (by decide)
                          have k253 : w247[9]? = some (iA E (a 9) 16 f9x) := by rw [hw248]; exact set_ne k241 (by decide)
                          have k254 : w247[10]? = some (iA E (a 10) 16 f10x) := by rw [hw248]; exact set_ne k242 (by decide)
                          have k255 : w247[7]? = some (iA E (a 7) 16 f211) := by rw [hw248]; exact set_ne k243 (by decide)
                          have k256 : w247[12]? = some (iA E (a 12) 16 (upd cu.2.1 q v212)) := by rw [hw248]; exact set_ne k244 (by decide)
                          have k257 : w247[13]? = some (iA E (a 13) 16 (upd cu.2.2.1 q (f8x q))) := by rw [hw248]; exact set_ne k245 (by decide)
                          have k258 : w247[14]? = some (iA E (a 14) 16 (upd cu.2.2.2.1 q (f9x q))) := by rw [hw248]; exact set_ne k237 (by decide)
                          refine x_iinc C (v := (nI (q + 1))) (lv' := [(3, .int (nI (q + 1))), (0, .ref (a 0)), (1, .int (nI j36)), (2, .int 1)]) dX12_law_194 3 rfl (nI_add q 1) (by decide) rfl rfl ?_
                          refine x_goto C (tgt := 138) dX12_law_197 (by decide) ?_
                          refine x_lv (lv1 := [(0, .ref (a 0)), (1, .int (nI j36)), (2, .int 1), (3, .int (nI (q + 1)))]) [1, 2, 3, 0] rfl ?_
                          exact ih138 (q + 1) (cu.1, (upd cu.2.1 q v212), (upd cu.2.2.1 q (f8x q)), (upd cu.2.2.2.1 q (f9x q)), (upd cu.2.2.2.2.1 q (f10x q)), cu.2.2.2.2.2) w247 hW250 (by omega) (show MO a (cu.1, (upd cu.2.1 q v212), (upd cu.2.2.1 q (f8x q)), (upd cu.2.2.2.1 q (f9x q)), (upd cu.2.2.2.2.1 q (f10x q)), cu.2.2.2.2.2) _ 0 px j36 cx wx sx n17 nz from ⟨v194, v195, v196, v197, v198, v199, v200, n201, n202, ⟨by omega, by omega, by omega, by omega, by omega, by omega, by omega⟩, ⟨by omega, by omega⟩, zb205, k251⟩) k252 k253 k254 iv138_4 iv138_5 (cpy_step iv138_6) (cpy_step iv138_7) (cpy_step iv138_8) (by omega)
                    refine x_lv (lv1 := [(0, .ref (a 0)), (1, .int (nI j36)), (2, .int 1), (3, .int 0)]) [1, 2, 3, 0] rfl ?_
                    exact loop138 _ 0 cv wl110 hWl110 (Nat.lt_succ_self _) (show MO a cv _ 0 px j36 cx wx sx n17 nz from ⟨v179, v180, v181, v182, v183, v184, v185, n186, n187, ⟨by omega, by omega, by omega, by omega, by omega, by omega, by omega⟩, ⟨by omega, by omega⟩, zb190, k191⟩) iv110_2 iv110_3 iv110_4 rfl (by rw [iv110_5]) (fun j hj => absurd hj (by omega)) (fun j hj => absurd hj (by omega)) (fun j hj => absurd hj (by omega)) (by omega)
                  · skip
                    have nf259 := nI_nle' (a := cx) (b := k) c192 (by omega) (by omega)
                    refine x_aload_n C dX12_law_118 rfl 0 rfl rfl ?_
                    refine x_get C (ci := 11) (k := 20) 0 k191 rfl in_X12 (by decide) w_1138 rfl dX12_law_119 rfl ?_
                    refine x_iload_n C dX12_law_122 rfl 3 rfl rfl ?_
                    refine x_aload_n C dX12_law_123 rfl 0 rfl rfl ?_
                    refine x_get C (ci := 11) (k := 14) 0 k191 rfl in_X12 (by decide) w_1132 rfl dX12_law_124 rfl ?_
                    refine x_iload_n C dX12_law_127 rfl 3 rfl rfl ?_
                    refine x_ialk C (v := (fx k)) k (nI_clamp (by omega)) (nI_pos (by omega)) (by omega) 5 iv110_1 rfl dX12_law_128 rfl ?_
                    obtain ⟨_, k260, rfl⟩ := hWl110 11 _ rfl
                    obtain ⟨w261, hw262⟩ : ∃ w : va_W, w = List.set wl110 11 (iA E (a 11) 260 (upd cv.1 k (fx k))) := ⟨_, rfl⟩
                    refine x_iask C k (nI_clamp (by omega)) (nI_pos (by omega)) (by omega) 11 k260 hw262.symm dX12_law_129 rfl ?_
                    have k263 : w261[11]? = some (iA E (a 11) 260 (upd cv.1 k (fx k))) := by rw [hw262]; exact set_eq k260
                    have hW264 : WX (okM E a ((upd cv.1 k (fx k)), cv.2)) w261 := by rw [hw262]; exact wx_11 _ hWl110
                    have k265 : w261[0]? = some (ob (a 0) 11 [.ref (a 1), .ref (a 2), .ref (a 3), .ref (a 4), .int (nI 0), .int (nI px), .int (nI j36), .int v179, .int nz, .int v180, .int (nI cx), .int (nI wx), .int (nI sx), .int (nI (cv.2.2.2.2.2)), .ref (a 5), .ref (a 6), .ref (a 7), .ref (a 8), .ref (a 9), .ref (a 10), .ref (a 11), .ref (a 12), .ref (a 13), .ref (a 14), .ref (a 15), .ref (a 16), .ref (a 17), .int (nI n17), .ref (a 18), .ref (a 19), .ref (a 20), .ref (a 21), .int v181, .int v182, .int v183, .int v184, .int (nI n186), .int (nI n187), .ref (a 22), .ref (a 23), .ref (a 24), .ref (a 25), .ref (a 26), .ref (a 27), .ref (a 28), .ref (a 29), .ref (a 30), .int v185]) := by rw [hw262]; exact set_ne k191 (by decide)
                    have k266 : w261[5]? = some (iA E (a 5) 260 fx) := by rw [hw262]; exact set_ne iv110_1 (by decide)
                    have k267 : w261[8]? = some (iA E (a 8) 16 f8x) := by rw [hw262]; exact set_ne iv110_2 (by decide)
                    have k268 : w261[9]? = some (iA E (a 9) 16 f9x) := by rw [hw262]; exact set_ne iv110_3 (by decide)
                    have k269 : w261[10]? = some (iA E (a 10) 16 f10x) := by rw [hw262]; exact set_ne iv110_4 (by decide)
                    refine x_iinc C (v := (nI (k + 1))) (lv' := [(3, .int (nI (k + 1))), (0, .ref (a 0)), (1, .int (nI j36)), (2, .int 1)]) dX12_law_130 3 rfl (nI_add k 1) (by decide) rfl rfl ?_
                    refine x_goto C (tgt := 110) dX12_law_133 (by decide) ?_
                    refine x_lv (lv1 := [(0, .ref (a 0)), (1, .int (nI j36)), (2, .int 1), (3, .int (nI (k + 1)))]) [1, 2, 3, 0] rfl ?_
                    exact ih110 (k + 1) ((upd cv.1 k (fx k)), cv.2) w261 hW264 (by omega) (show MO a ((upd cv.1 k (fx k)), cv.2) _ 0 px j36 cx wx sx n17 nz from ⟨v179, v180, v181, v182, v183, v184, v185, n186, n187, ⟨by omega, by omega, by omega, by omega, by omega, by omega, by omega⟩, ⟨by omega, by omega⟩, zb190, k265⟩) k266 k267 k268 k269 iv110_5 (cpy_step iv110_6) (by omega)
              refine x_lv (lv1 := [(0, .ref (a 0)), (1, .int (nI j36)), (2, .int 1), (3, .int 0)]) [1, 2, 3, 0] rfl ?_
              exact loop110 _ 0 (cd.1, cd.2.1, cd.2.2.1, cd.2.2.2.1, cd.2.2.2.2.1, sx) w169 hW172 (Nat.lt_succ_self _) (show MO a (cd.1, cd.2.1, cd.2.2.1, cd.2.2.2.1, cd.2.2.2.2.1, sx) _ 0 px j36 cx wx sx n17 nz from ⟨v144, v145, v146, v147, v148, v149, v150, n151, n152, ⟨by omega, by omega, by omega, by omega, by omega, by omega, by omega⟩, ⟨by omega, by omega⟩, zb155, k171⟩) k174 k176 k177 k178 rfl (fun j hj => absurd hj (by omega)) (by omega)
            · skip
              have nf270 := nI_nle' (a := j36) (b := px) c157 (by omega) (by omega)
              refine x_aload_n C dX12_law_61 rfl 0 rfl rfl ?_
              refine x_bipush C (v := 59) dX12_law_62 (by decide) rfl ?_
              refine x_vi C (As := [.int 59]) (rest := []) (m_takes59 E l a cd hG wl46 hWl46 n2 px j36 cx wx sx n17 nz ⟨v144, v145, v146, v147, v148, v149, v150, n151, n152, ⟨by omega, by omega, by omega, by omega, by omega, by omega, by omega⟩, ⟨by omega, by omega⟩, zb155, k156⟩ f59 iv46_1) mf_X12_takes w_1391 0 k156 rfl rfl rfl (Nat.le_of_ble_eq_true rfl) ⟨(Nat.le_of_ble_eq_true rfl), (Nat.le_of_ble_eq_true rfl)⟩ ⟨(Nat.le_of_ble_eq_true rfl), (Nat.le_of_ble_eq_true rfl)⟩ dX12_law_64 rfl (fun r272 w273 h271 => ?_)
              obtain ⟨hW274, kq275, zb276, x277⟩ := h271
              have k278 : w273[4]? = some (bA E (a 4) 260 f59) := keeps_at kq275 iv46_1 (by first | decide | omega | (dsimp only; omega))
              have k279 : w273[5]? = some (iA E (a 5) 260 fx) := keeps_at kq275 iv46_2 (by first | decide | omega | (dsimp only; omega))
              have k280 : w273[6]? = some (iA E (a 6) 260 gx) := keeps_at kq275 iv46_3 (by first | decide | omega | (dsimp only; omega))
              have k281 : w273[8]? = some (iA E (a 8) 16 f8x) := keeps_at kq275 iv46_4 (by first | decide | omega | (dsimp only; omega))
              have k282 : w273[9]? = some (iA E (a 9) 16 f9x) := keeps_at kq275 iv46_5 (by first | decide | omega | (dsimp only; omega))
              have k283 : w273[10]? = some (iA E (a 10) 16 f10x) := keeps_at kq275 iv46_6 (by first | decide | omega | (dsimp only; omega))
              rcases x277 with ⟨e284, mo285⟩ | ⟨e286, hp287, mo288⟩
              · refine x_top e284 ?_
                obtain ⟨v289, v290, v291, v292, v293, v294, v295, n296, n297, bo298, bo299, zb300, k301⟩ := mo285
                refine x_if_eq C (tgt := 81) dX12_law_67 (by decide) rfl (fun _ => ?_) (fun h => absurd h (by decide))
                refine x_iconst C (v := 0) dX12_law_81 (by decide) rfl ?_
                refine x_istore_n C (lv' := [(2, .int 0), (0, .ref (a 0)), (1, .int (nI j36))]) dX12_law_82 rfl (by decide) rfl rfl ?_
                refine x_goto C (tgt := 46) dX12_law_83 (by decide) ?_
                refine x_iload_n C dX12_law_46 rfl 0 rfl rfl ?_
                refine x_if_eq C (tgt := 86) dX12_law_47 (by decide) rfl (fun _ => ?_) (fun h => absurd h (by decide))
                refine x_aload_n C dX12_law_86 rfl 1 rfl rfl ?_
                refine x_iconst C (v := 0) dX12_law_87 (by decide) rfl ?_
                obtain ⟨w302, hw303⟩ : ∃ w : va_W, w = List.set w273 0 (ob (a 0) 11 [.ref (a 1), .ref (a 2), .ref (a 3), .ref (a 4), .int 0, .int (nI px), .int (nI j36), .int v289, .int nz, .int v290, .int (nI cx), .int (nI wx), .int (nI sx), .int (nI (cd.2.2.2.2.2)), .ref (a 5), .ref (a 6), .ref (a 7), .ref (a 8), .ref (a 9), .ref (a 10), .ref (a 11), .ref (a 12), .ref (a 13), .ref (a 14), .ref (a 15), .ref (a 16), .ref (a 17), .int (nI n17), .ref (a 18), .ref (a 19), .ref (a 20), .ref (a 21), .int v291, .int v292, .int v293, .int v294, .int (nI n296), .int (nI n297), .ref (a 22), .ref (a 23), .ref (a 24), .ref (a 25), .ref (a 26), .ref (a 27), .ref (a 28), .ref (a 29), .ref (a 30), .int v295]) := ⟨_, rfl⟩
                refine x_put C (ci := 11) (k := 4) (ty := .int) 0 k301 rfl in_X12 tyX12 tyX12_ok nmX12 (by decide) w_1122 rfl rfl rfl rfl (Nat.le_of_ble_eq_true rfl) hw303.symm dX12_law_88 rfl ?_
                have hW304 : WX (okM E a cd) w302 := by rw [hw303]; exact hW274.set (k := 0) rfl ⟨0, px, j36, v289, nz, v290, cx, wx, sx, n17, v291, v292, v293, v294, n296, n297, v295, by omega, by omega, by omega, by omega, by omega, by omega, by omega, by omega, by omega, zb300, rfl⟩
                have k305 : w302[4]? = some (bA E (a 4) 260 f59) := by rw [hw303]; exact set_ne k278 (by decide)
                have k306 : w302[5]? = some (iA E (a 5) 260 fx) := by rw [hw303]; exact set_ne k279 (by decide)
                have k307 : w302[6]? = some (iA E (a 6) 260 gx) := by rw [hw303]; exact set_ne k280 (by decide)
                have k308 : w302[8]? = some (iA E (a 8) 16 f8x) := by rw [hw303]; exact set_ne k281 (by decide)
                have k309 : w302[9]? = some (iA E (a 9) 16 f9x) := by rw [hw303]; exact set_ne k282 (by decide)
                have k310 : w302[10]? = some (iA E (a 10) 16 f10x) := by rw [hw303]; exact set_ne k283 (by decide)
                have k311 : w302[0]? = some (ob (a 0) 11 [.ref (a 1), .ref (a 2), .ref (a 3), .ref (a 4), .int 0, .int (nI px), .int (nI j36), .int v289, .int nz, .int v290, .int (nI cx), .int (nI wx), .int (nI sx), .int (nI (cd.2.2.2.2.2)), .ref (a 5), .ref (a 6), .ref (a 7), .ref (a 8), .ref (a 9), .ref (a 10), .ref (a 11), .ref (a 12), .ref (a 13), .ref (a 14), .ref (a 15), .ref (a 16), .ref (a 17), .int (nI n17), .ref (a 18), .ref (a 19), .ref (a 20), .ref (a 21), .int v291, .int v292, .int v293, .int v294, .int (nI n296), .int (nI n297), .ref (a 22), .ref (a 23), .ref (a 24), .ref (a 25), .ref (a 26), .ref (a 27), .ref (a 28), .ref (a 29), .ref (a 30), .int v295]) := by rw [hw303]; exact set_eq k301
                refine x_iload_n C dX12_law_91 rfl 0 rfl rfl ?_
                refine x_if_ne C (tgt := 100) dX12_law_92 (by decide) rfl (fun h => absurd h (by decide)) (fun _ => ?_)
                refine x_aload_n C dX12_law_95 rfl 1 rfl rfl ?_
                refine x_get C (ci := 11) (k := 7) 0 k311 rfl in_X12 (by decide) w_1125 rfl dX12_law_96 rfl ?_
                exact x_zret C hr hlk rfl dX12_law_99 ⟨cd, hG, hW304⟩
              · refine x_top e286 ?_
                obtain ⟨v312, v313, v314, v315, v316, v317, v318, n319, n320, bo321, bo322, zb323, k324⟩ := mo288
                refine x_if_eq C (tgt := 81) dX12_law_67 (by decide) rfl (fun h => absurd h (by decide)) (fun _ => ?_)
                refine x_aload_n C dX12_law_70 rfl 0 rfl rfl ?_
                refine x_vi C (As := []) (rest := []) (m_readsClause E l a cd hG w273 hW274 n2 (px + 1) j36 cx wx sx n17 nz ⟨v312, v313, v314, v315, v316, v317, v318, n319, n320, ⟨by omega, by omega, by omega, by omega, by omega, by omega, by omega⟩, ⟨by omega, by omega⟩, zb323, k324⟩ f59 k278 (by omega) fx k279 gx k280 f8x k281 f9x k282 f10x k283 (by omega) iv46_7) mf_X12_readsClause w_1313 0 k324 rfl rfl rfl (Nat.le_of_ble_eq_true rfl) ⟨(Nat.le_of_ble_eq_true rfl), (Nat.le_of_ble_eq_true rfl)⟩ ⟨(Nat.le_of_ble_eq_true rfl), (Nat.le_of_ble_eq_true rfl)⟩ dX12_law_71 rfl (fun r326 w327 h325 => ?_)
                obtain ⟨hW328, kq329, zb330, x331⟩ := h325
                have k332 : w327[4]? = some (bA E (a 4) 260 f59) := keeps_at kq329 k278 (by first | decide | omega | (dsimp only; omega))
                rcases x331 with ⟨e333, rf334⟩ | ⟨e335, pl336, cm337, wt338, fs339, fw340, g8341, g9342, g10343, hq344, hq345, hq346, hq347, hq348, hq349, hq350, hq351⟩
                · refine x_top e333 ?_
                  obtain ⟨pl352, cm353, wt354, fs355, fw356, rs357⟩ := rf334
                  obtain ⟨⟨nu358, mo359⟩, k360, k361⟩ := rs357
                  obtain ⟨v362, v363, v364, v365, v366, v367, v368, n369, n370, bo371, bo372, zb373, k374⟩ := mo359
                  refine x_if_eq C (tgt := 81) dX12_law_74 (by decide) rfl (fun _ => ?_) (fun h => absurd h (by decide))
                  refine x_iconst C (v := 0) dX12_law_81 (by decide) rfl ?_
                  refine x_istore_n C (lv' := [(2, .int 0), (0, .ref (a 0)), (1, .int (nI j36))]) dX12_law_82 rfl (by decide) rfl rfl ?_
                  refine x_goto C (tgt := 46) dX12_law_83 (by decide) ?_
                  refine x_iload_n C dX12_law_46 rfl 0 rfl rfl ?_
                  refine x_if_eq C (tgt := 86) dX12_law_47 (by decide) rfl (fun _ => ?_) (fun h => absurd h (by decide))
                  refine x_aload_n C dX12_law_86 rfl 1 rfl rfl ?_
                  refine x_iconst C (v := 0) dX12_law_87 (by decide) rfl ?_
                  obtain ⟨w375, hw376⟩ : ∃ w : va_W, w = List.set w327 0 (ob (a 0) 11 [.ref (a 1), .ref (a 2), .ref (a 3), .ref (a 4), .int 0, .int (nI pl352), .int (nI j36), .int v362, .int nu358, .int v363, .int (nI cm353), .int (nI wt354), .int (nI sx), .int (nI (cd.2.2.2.2.2)), .ref (a 5), .ref (a 6), .ref (a 7), .ref (a 8), .ref (a 9), .ref (a 10), .ref (a 11), .ref (a 12), .ref (a 13), .ref (a 14), .ref (a 15), .ref (a 16), .ref (a 17), .int (nI n17), .ref (a 18), .ref (a 19), .ref (a 20), .ref (a 21), .int v364, .int v365, .int v366, .int v367, .int (nI n369), .int (nI n370), .ref (a 22), .ref (a 23), .ref (a 24), .ref (a 25), .ref (a 26), .ref (a 27), .ref (a 28), .ref (a 29), .ref (a 30), .int v368]) := ⟨_, rfl⟩
                  refine x_put C (ci := 11) (k := 4) (ty := .int) 0 k374 rfl in_X12 tyX12 tyX12_ok nmX12 (by decide) w_1122 rfl rfl rfl rfl (Nat.le_of_ble_eq_true rfl) hw376.symm dX12_law_88 rfl ?_
                  have hW377 : WX (okM E a cd) w375 := by rw [hw376]; exact hW328.set (k := 0) rfl ⟨0, pl352, j36, v362, nu358, v363, cm353, wt354, sx, n17, v364, v365, v366, v367, n369, n370, v368, by omega, by omega, by omega, by omega, by omega, by omega, by omega, by omega, by omega, zb373, rfl⟩
                  have k378 : w375[4]? = some (bA E (a 4) 260 f59) := by rw [hw376]; exact set_ne k332 (by decide)
                  have k379 : w375[0]? = some (ob (a 0) 11 [.ref (a 1), .ref (a 2), .ref (a 3), .ref (a 4), .int 0, .int (nI pl352), .int (nI j36), .int v362, .int nu358, .int v363, .int (nI cm353), .int (nI wt354), .int (nI sx), .int (nI (cd.2.2.2.2.2)), .ref (a 5), .ref (a 6), .ref (a 7), .ref (a 8), .ref (a 9), .ref (a 10), .ref (a 11), .ref (a 12), .ref (a 13), .ref (a 14), .ref (a 15), .ref (a 16), .ref (a 17), .int (nI n17), .ref (a 18), .ref (a 19), .ref (a 20), .ref (a 21), .int v364, .int v365, .int v366, .int v367, .int (nI n369), .int (nI n370), .ref (a 22), .ref (a 23), .ref (a 24), .ref (a 25), .ref (a 26), .ref (a 27), .ref (a 28), .ref (a 29), .ref (a 30), .int v368]) := by rw [hw376]; exact set_eq k374
                  have k380 : w375[5]? = some (iA E (a 5) 260 fs355) := by rw [hw376]; exact set_ne k360 (by decide)
                  have k381 : w375[6]? = some (iA E (a 6) 260 fw356) := by rw [hw376]; exact set_ne k361 (by decide)
                  refine x_iload_n C dX12_law_91 rfl 0 rfl rfl ?_
                  refine x_if_ne C (tgt := 100) dX12_law_92 (by decide) rfl (fun h => absurd h (by decide)) (fun _ => ?_)
                  refine x_aload_n C dX12_law_95 rfl 1 rfl rfl ?_
                  refine x_get C (ci := 11) (k := 7) 0 k379 rfl in_X12 (by decide) w_1125 rfl dX12_law_96 rfl ?_
                  exact x_zret C hr hlk rfl dX12_law_99 ⟨cd, hG, hW377⟩
                · refine x_top e335 ?_
                  obtain ⟨⟨nu382, mo383⟩, k384, k385⟩ := hq346
                  obtain ⟨v386, v387, v388, v389, v390, v391, v392, n393, n394, bo395, bo396, zb397, k398⟩ := mo383
                  refine x_if_eq C (tgt := 81) dX12_law_74 (by decide) rfl (fun h => absurd h (by decide)) (fun _ => ?_)
                  refine x_iconst C (v := 1) dX12_law_77 (by decide) rfl ?_
                  refine x_goto C (tgt := 82) dX12_law_78 (by decide) ?_
                  refine x_istore_n C (lv' := [(2, .int 1), (0, .ref (a 0)), (1, .int (nI j36))]) dX12_law_82 rfl (by decide) rfl rfl ?_
                  refine x_goto C (tgt := 46) dX12_law_83 (by decide) ?_
                  refine x_lv (lv1 := [(0, .ref (a 0)), (1, .int (nI j36)), (2, .int 1)]) [1, 2, 0] rfl ?_
                  exact ih46 pl336 cm337 wt338 (sx + 1) nu382 fs339 fw340 g8341 g9342 g10343 w327 hW328 (by omega) ⟨v386, v387, v388, v389, v390, v391, v392, n393, n394, ⟨by omega, by omega, by omega, by omega, by omega, by omega, by omega⟩, ⟨by omega, by omega⟩, zb397, k398⟩ k332 k384 k385 hq347 hq348 hq349 hq351 (by omega)
        refine x_lv (lv1 := [(0, .ref (a 0)), (1, .int (nI j36)), (2, .int 1)]) [1, 2, 0] rfl ?_
        exact loop46 _ pl81 cm82 wt83 (0 + 1) nu127 fs84 fw85 g886 g987 g1088 w72 hW73 (Nat.lt_succ_self _) ⟨v131, v132, v133, v134, v135, v136, v137, n138, n139, ⟨by omega, by omega, by omega, by omega, by omega, by omega, by omega⟩, ⟨by omega, by omega⟩, zb142, k143⟩ k77 k129 k130 hq92 hq93 hq94 hq96 (by omega)
    · skip
      have nf399 := nI_nle' (a := j36) (b := n2) c40 (by omega) (by omega)
      refine x_iconst C (v := (-1)) dX12_law_19 (by decide) rfl ?_
      exact x_zret C hr hlk rfl dX12_law_20 ⟨cd, hG, hW⟩
