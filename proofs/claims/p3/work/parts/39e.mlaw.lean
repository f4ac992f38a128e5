theorem dX12_law_0 : decode cX12_law 0 = .ok (.iload_n 1, 1) := by decide +kernel
theorem dX12_law_1 : decode cX12_law 1 = .ok (.iconst 1, 1) := by decide +kernel
theorem dX12_law_2 : decode cX12_law 2 = .ok (.sipush 240, 3) := by decide +kernel
theorem dX12_law_5 : decode cX12_law 5 = .ok (.invokestatic 109, 3) := by decide +kernel
theorem dX12_law_8 : decode cX12_law 8 = .ok (.ifCond .eq 11, 3) := by decide +kernel
theorem dX12_law_11 : decode cX12_law 11 = .ok (.iload_n 1, 1) := by decide +kernel
theorem dX12_law_12 : decode cX12_law 12 = .ok (.aload_n 0, 1) := by decide +kernel
theorem dX12_law_13 : decode cX12_law 13 = .ok (.getfield 123, 3) := by decide +kernel
theorem dX12_law_16 : decode cX12_law 16 = .ok (.if_icmp .le 5, 3) := by decide +kernel
theorem dX12_law_19 : decode cX12_law 19 = .ok (.iconst (-1), 1) := by decide +kernel
theorem dX12_law_20 : decode cX12_law 20 = .ok (.ireturn, 1) := by decide +kernel
theorem dX12_law_21 : decode cX12_law 21 = .ok (.aload_n 0, 1) := by decide +kernel
theorem dX12_law_22 : decode cX12_law 22 = .ok (.iconst 0, 1) := by decide +kernel
theorem dX12_law_23 : decode cX12_law 23 = .ok (.putfield 131, 3) := by decide +kernel
theorem dX12_law_26 : decode cX12_law 26 = .ok (.aload_n 0, 1) := by decide +kernel
theorem dX12_law_27 : decode cX12_law 27 = .ok (.iload_n 1, 1) := by decide +kernel
theorem dX12_law_28 : decode cX12_law 28 = .ok (.putfield 134, 3) := by decide +kernel
theorem dX12_law_31 : decode cX12_law 31 = .ok (.aload_n 0, 1) := by decide +kernel
theorem dX12_law_32 : decode cX12_law 32 = .ok (.iconst 0, 1) := by decide +kernel
theorem dX12_law_33 : decode cX12_law 33 = .ok (.putfield 154, 3) := by decide +kernel
theorem dX12_law_36 : decode cX12_law 36 = .ok (.aload_n 0, 1) := by decide +kernel
theorem dX12_law_37 : decode cX12_law 37 = .ok (.iconst 0, 1) := by decide +kernel
theorem dX12_law_38 : decode cX12_law 38 = .ok (.putfield 211, 3) := by decide +kernel
theorem dX12_law_41 : decode cX12_law 41 = .ok (.aload_n 0, 1) := by decide +kernel
theorem dX12_law_42 : decode cX12_law 42 = .ok (.invokevirtual 217, 3) := by decide +kernel
theorem dX12_law_45 : decode cX12_law 45 = .ok (.istore_n 2, 1) := by decide +kernel
theorem dX12_law_46 : decode cX12_law 46 = .ok (.iload_n 2, 1) := by decide +kernel
theorem dX12_law_47 : decode cX12_law 47 = .ok (.ifCond .eq 39, 3) := by decide +kernel
theorem dX12_law_50 : decode cX12_law 50 = .ok (.aload_n 0, 1) := by decide +kernel
theorem dX12_law_51 : decode cX12_law 51 = .ok (.getfield 131, 3) := by decide +kernel
theorem dX12_law_54 : decode cX12_law 54 = .ok (.aload_n 0, 1) := by decide +kernel
theorem dX12_law_55 : decode cX12_law 55 = .ok (.getfield 134, 3) := by decide +kernel
theorem dX12_law_58 : decode cX12_law 58 = .ok (.if_icmp .ge 28, 3) := by decide +kernel
theorem dX12_law_61 : decode cX12_law 61 = .ok (.aload_n 0, 1) := by decide +kernel
theorem dX12_law_62 : decode cX12_law 62 = .ok (.bipush 59, 2) := by decide +kernel
theorem dX12_law_64 : decode cX12_law 64 = .ok (.invokevirtual 220, 3) := by decide +kernel
theorem dX12_law_67 : decode cX12_law 67 = .ok (.ifCond .eq 14, 3) := by decide +kernel
theorem dX12_law_70 : decode cX12_law 70 = .ok (.aload_n 0, 1) := by decide +kernel
theorem dX12_law_71 : decode cX12_law 71 = .ok (.invokevirtual 217, 3) := by decide +kernel
theorem dX12_law_74 : decode cX12_law 74 = .ok (.ifCond .eq 7, 3) := by decide +kernel
theorem dX12_law_77 : decode cX12_law 77 = .ok (.iconst 1, 1) := by decide +kernel
theorem dX12_law_78 : decode cX12_law 78 = .ok (.goto 4, 3) := by decide +kernel
theorem dX12_law_81 : decode cX12_law 81 = .ok (.iconst 0, 1) := by decide +kernel
theorem dX12_law_82 : decode cX12_law 82 = .ok (.istore_n 2, 1) := by decide +kernel
theorem dX12_law_83 : decode cX12_law 83 = .ok (.goto (-37), 3) := by decide +kernel
theorem dX12_law_86 : decode cX12_law 86 = .ok (.aload_n 0, 1) := by decide +kernel
theorem dX12_law_87 : decode cX12_law 87 = .ok (.iconst 0, 1) := by decide +kernel
theorem dX12_law_88 : decode cX12_law 88 = .ok (.putfield 123, 3) := by decide +kernel
theorem dX12_law_91 : decode cX12_law 91 = .ok (.iload_n 2, 1) := by decide +kernel
theorem dX12_law_92 : decode cX12_law 92 = .ok (.ifCond .ne 8, 3) := by decide +kernel
theorem dX12_law_95 : decode cX12_law 95 = .ok (.aload_n 0, 1) := by decide +kernel
theorem dX12_law_96 : decode cX12_law 96 = .ok (.getfield 141, 3) := by decide +kernel
theorem dX12_law_99 : decode cX12_law 99 = .ok (.ireturn, 1) := by decide +kernel
theorem dX12_law_100 : decode cX12_law 100 = .ok (.aload_n 0, 1) := by decide +kernel
theorem dX12_law_101 : decode cX12_law 101 = .ok (.aload_n 0, 1) := by decide +kernel
theorem dX12_law_102 : decode cX12_law 102 = .ok (.getfield 211, 3) := by decide +kernel
theorem dX12_law_105 : decode cX12_law 105 = .ok (.putfield 223, 3) := by decide +kernel
theorem dX12_law_108 : decode cX12_law 108 = .ok (.iconst 0, 1) := by decide +kernel
theorem dX12_law_109 : decode cX12_law 109 = .ok (.istore_n 3, 1) := by decide +kernel
theorem dX12_law_110 : decode cX12_law 110 = .ok (.iload_n 3, 1) := by decide +kernel
theorem dX12_law_111 : decode cX12_law 111 = .ok (.aload_n 0, 1) := by decide +kernel
theorem dX12_law_112 : decode cX12_law 112 = .ok (.getfield 154, 3) := by decide +kernel
theorem dX12_law_115 : decode cX12_law 115 = .ok (.if_icmp .ge 21, 3) := by decide +kernel
theorem dX12_law_118 : decode cX12_law 118 = .ok (.aload_n 0, 1) := by decide +kernel
theorem dX12_law_119 : decode cX12_law 119 = .ok (.getfield 41, 3) := by decide +kernel
theorem dX12_law_122 : decode cX12_law 122 = .ok (.iload_n 3, 1) := by decide +kernel
theorem dX12_law_123 : decode cX12_law 123 = .ok (.aload_n 0, 1) := by decide +kernel
theorem dX12_law_124 : decode cX12_law 124 = .ok (.getfield 23, 3) := by decide +kernel
theorem dX12_law_127 : decode cX12_law 127 = .ok (.iload_n 3, 1) := by decide +kernel
theorem dX12_law_128 : decode cX12_law 128 = .ok (.iaload, 1) := by decide +kernel
theorem dX12_law_129 : decode cX12_law 129 = .ok (.iastore, 1) := by decide +kernel
theorem dX12_law_130 : decode cX12_law 130 = .ok (.iinc 3 1, 3) := by decide +kernel
theorem dX12_law_133 : decode cX12_law 133 = .ok (.goto (-23), 3) := by decide +kernel
theorem dX12_law_136 : decode cX12_law 136 = .ok (.iconst 0, 1) := by decide +kernel
theorem dX12_law_137 : decode cX12_law 137 = .ok (.istore_n 3, 1) := by decide +kernel
theorem dX12_law_138 : decode cX12_law 138 = .ok (.iload_n 3, 1) := by decide +kernel
theorem dX12_law_139 : decode cX12_law 139 = .ok (.aload_n 0, 1) := by decide +kernel
theorem dX12_law_140 : decode cX12_law 140 = .ok (.getfield 211, 3) := by decide +kernel
theorem dX12_law_143 : decode cX12_law 143 = .ok (.if_icmp .ge 57, 3) := by decide +kernel
theorem dX12_law_146 : decode cX12_law 146 = .ok (.aload_n 0, 1) := by decide +kernel
theorem dX12_law_147 : decode cX12_law 147 = .ok (.getfield 44, 3) := by decide +kernel
theorem dX12_law_150 : decode cX12_law 150 = .ok (.iload_n 3, 1) := by decide +kernel
theorem dX12_law_151 : decode cX12_law 151 = .ok (.aload_n 0, 1) := by decide +kernel
theorem dX12_law_152 : decode cX12_law 152 = .ok (.getfield 29, 3) := by decide +kernel
theorem dX12_law_155 : decode cX12_law 155 = .ok (.iload_n 3, 1) := by decide +kernel
theorem dX12_law_156 : decode cX12_law 156 = .ok (.iaload, 1) := by decide +kernel
theorem dX12_law_157 : decode cX12_law 157 = .ok (.iastore, 1) := by decide +kernel
theorem dX12_law_158 : decode cX12_law 158 = .ok (.aload_n 0, 1) := by decide +kernel
theorem dX12_law_159 : decode cX12_law 159 = .ok (.getfield 47, 3) := by decide +kernel
theorem dX12_law_162 : decode cX12_law 162 = .ok (.iload_n 3, 1) := by decide +kernel
theorem dX12_law_163 : decode cX12_law 163 = .ok (.aload_n 0, 1) := by decide +kernel
theorem dX12_law_164 : decode cX12_law 164 = .ok (.getfield 32, 3) := by decide +kernel
theorem dX12_law_167 : decode cX12_law 167 = .ok (.iload_n 3, 1) := by decide +kernel
theorem dX12_law_168 : decode cX12_law 168 = .ok (.iaload, 1) := by decide +kernel
theorem dX12_law_169 : decode cX12_law 169 = .ok (.iastore, 1) := by decide +kernel
theorem dX12_law_170 : decode cX12_law 170 = .ok (.aload_n 0, 1) := by decide +kernel
theorem dX12_law_171 : decode cX12_law 171 = .ok (.getfield 50, 3) := by decide +kernel
theorem dX12_law_174 : decode cX12_law 174 = .ok (.iload_n 3, 1) := by decide +kernel
theorem dX12_law_175 : decode cX12_law 175 = .ok (.aload_n 0, 1) := by decide +kernel
theorem dX12_law_176 : decode cX12_law 176 = .ok (.getfield 35, 3) := by decide +kernel
theorem dX12_law_179 : decode cX12_law 179 = .ok (.iload_n 3, 1) := by decide +kernel
theorem dX12_law_180 : decode cX12_law 180 = .ok (.iaload, 1) := by decide +kernel
theorem dX12_law_181 : decode cX12_law 181 = .ok (.iastore, 1) := by decide +kernel
theorem dX12_law_182 : decode cX12_law 182 = .ok (.aload_n 0, 1) := by decide +kernel
theorem dX12_law_183 : decode cX12_law 183 = .ok (.getfield 53, 3) := by decide +kernel
theorem dX12_law_186 : decode cX12_law 186 = .ok (.iload_n 3, 1) := by decide +kernel
theorem dX12_law_187 : decode cX12_law 187 = .ok (.aload_n 0, 1) := by decide +kernel
theorem dX12_law_188 : decode cX12_law 188 = .ok (.getfield 38, 3) := by decide +kernel
theorem dX12_law_191 : decode cX12_law 191 = .ok (.iload_n 3, 1) := by decide +kernel
theorem dX12_law_192 : decode cX12_law 192 = .ok (.iaload, 1) := by decide +kernel
theorem dX12_law_193 : decode cX12_law 193 = .ok (.iastore, 1) := by decide +kernel
theorem dX12_law_194 : decode cX12_law 194 = .ok (.iinc 3 1, 3) := by decide +kernel
theorem dX12_law_197 : decode cX12_law 197 = .ok (.goto (-59), 3) := by decide +kernel
theorem dX12_law_200 : decode cX12_law 200 = .ok (.aload_n 0, 1) := by decide +kernel
theorem dX12_law_201 : decode cX12_law 201 = .ok (.getfield 211, 3) := by decide +kernel
theorem dX12_law_204 : decode cX12_law 204 = .ok (.ireturn, 1) := by decide +kernel
set_option maxRecDepth 20000 in
set_option maxHeartbeats 4000000 in
theorem m_law (E : xE) (l : Launch) (a : Nat → Nat) (cd : Cd) (hG : Good cd) (kf : Int32) (jn js jq : Lb) (ws : va_W) (hW : WX (okM E a cd kf jn js jq) ws) (p0 : Int32) : xI E l yX12_law cX12_law 4 (some .int) 10 [.ref (a 0), .int p0] ws (fun r w => ∃ cd2 : Cd, Good cd2 ∧ WX (okM E a cd2 kf jn js jq) w) := by
  refine xI_start (lv := [(0, .ref (a 0)), (1, .int p0)]) RX12 (by decide) rfl (Nat.le_of_ble_eq_true rfl) rfl (fun p e s m below meth c A C hr hlk => ?_)
  obtain ⟨_, k1, n2, n4, n6, v8, v9, v10, n11, n13, n15, n17, v19, v20, v21, v22, n23, n25, bn3, bn5, bn7, bn12, bn14, bn16, bn18, bn24, bn26, rfl⟩ := hW 0 _ rfl
  refine x_iload_n C dX12_law_0 rfl 1 rfl rfl ?_
  refine x_iconst C (v := 1) dX12_law_1 (by decide) rfl ?_
  refine x_sipush C (v := 240) dX12_law_2 (by decide) rfl ?_
  refine x_si C (As := [.int p0, .int 1, .int 240]) (rest := []) (m_in E l a cd hG kf jn js jq ws hW p0 (1 : Int32) (240 : Int32)) mf_X12_in w_1267 rfl rfl (Nat.le_of_ble_eq_true rfl) ⟨(Nat.le_of_ble_eq_true rfl), (Nat.le_of_ble_eq_true rfl)⟩ ⟨(Nat.le_of_ble_eq_true rfl), (Nat.le_of_ble_eq_true rfl)⟩ dX12_law_5 rfl (fun r28 w29 h27 => ?_)
  obtain ⟨hW30, zb31, x32⟩ := h27
  refine x_ws hW30 ?_
  refine x_if_eq C (tgt := 19) dX12_law_8 (by decide) rfl (fun c33 => ?_) (fun c33 => ?_)
  · skip
    refine x_iconst C (v := (-1)) dX12_law_19 (by decide) rfl ?_
    exact x_zret C hr hlk rfl dX12_law_20 ⟨cd, hG, hW⟩
  · skip
    obtain ⟨j34, hl35, hh36, ej37⟩ := w_nat (a := 1) (b := 240) (by decide) (by decide) (x32 c33)
    subst ej37
    refine x_iload_n C dX12_law_11 rfl 1 rfl rfl ?_
    refine x_aload_n C dX12_law_12 rfl 0 rfl rfl ?_
    refine x_get C (ci := 11) (k := 4) 0 k1 rfl in_X12 (by decide) w_1122 rfl dX12_law_13 rfl ?_
    refine x_icmp_le C (tgt := 21) dX12_law_16 (by decide) rfl (fun c38 => ?_) (fun c38 => ?_)
    · skip
      have nf39 := nI_le' (a := j34) (b := n2) c38 (by omega) (by omega)
      refine x_aload_n C dX12_law_21 rfl 0 rfl rfl ?_
      refine x_iconst C (v := 0) dX12_law_22 (by decide) rfl ?_
      obtain ⟨w40, hw41⟩ : ∃ w : va_W, w = List.set ws 0 (ob (a 0) 11 [.ref (a 1), .ref (a 2), .ref (a 3), .ref (a 4), .int (nI n2), .int 0, .int (nI n6), .int v8, .int v9, .int v10, .int (nI n11), .int (nI n13), .int (nI n15), .int (nI (cd.2.2.2.2.2)), .ref (a 5), .ref (a 6), .ref (a 7), .ref (a 8), .ref (a 9), .ref (a 10), .ref (a 11), .ref (a 12), .ref (a 13), .ref (a 14), .ref (a 15), .ref (a 16), .ref (a 17), .int (nI n17), .ref (a 18), .ref (a 19), .ref (a 20), .ref (a 21), .int v19, .int v20, .int v21, .int v22, .int (nI n23), .int (nI n25), .ref (a 22), .ref (a 23), .ref (a 24), .ref (a 25), .ref (a 26), .ref (a 27), .ref (a 28), .ref (a 29), .ref (a 30), .int kf]) := ⟨_, rfl⟩
      refine x_put C (ci := 11) (k := 5) (ty := .int) 0 k1 rfl in_X12 tyX12 tyX12_ok nmX12 (by decide) w_1123 rfl rfl rfl rfl (Nat.le_of_ble_eq_true rfl) hw41.symm dX12_law_23 rfl ?_
      have hW42 : WX (okM E a cd kf jn js jq) w40 := by rw [hw41]; exact hW.set (k := 0) rfl ⟨n2, 0, n6, v8, v9, v10, n11, n13, n15, n17, v19, v20, v21, v22, n23, n25, by omega, by omega, by omega, by omega, by omega, by omega, by omega, by omega, by omega, rfl⟩
      have k43 : w40[0]? = some (ob (a 0) 11 [.ref (a 1), .ref (a 2), .ref (a 3), .ref (a 4), .int (nI n2), .int 0, .int (nI n6), .int v8, .int v9, .int v10, .int (nI n11), .int (nI n13), .int (nI n15), .int (nI (cd.2.2.2.2.2)), .ref (a 5), .ref (a 6), .ref (a 7), .ref (a 8), .ref (a 9), .ref (a 10), .ref (a 11), .ref (a 12), .ref (a 13), .ref (a 14), .ref (a 15), .ref (a 16), .ref (a 17), .int (nI n17), .ref (a 18), .ref (a 19), .ref (a 20), .ref (a 21), .int v19, .int v20, .int v21, .int v22, .int (nI n23), .int (nI n25), .ref (a 22), .ref (a 23), .ref (a 24), .ref (a 25), .ref (a 26), .ref (a 27), .ref (a 28), .ref (a 29), .ref (a 30), .int kf]) := by rw [hw41]; exact set_eq k1
      refine x_aload_n C dX12_law_26 rfl 0 rfl rfl ?_
      refine x_iload_n C dX12_law_27 rfl 1 rfl rfl ?_
      obtain ⟨w44, hw45⟩ : ∃ w : va_W, w = List.set w40 0 (ob (a 0) 11 [.ref (a 1), .ref (a 2), .ref (a 3), .ref (a 4), .int (nI n2), .int 0, .int (nI j34), .int v8, .int v9, .int v10, .int (nI n11), .int (nI n13), .int (nI n15), .int (nI (cd.2.2.2.2.2)), .ref (a 5), .ref (a 6), .ref (a 7), .ref (a 8), .ref (a 9), .ref (a 10), .ref (a 11), .ref (a 12), .ref (a 13), .ref (a 14), .ref (a 15), .ref (a 16), .ref (a 17), .int (nI n17), .ref (a 18), .ref (a 19), .ref (a 20), .ref (a 21), .int v19, .int v20, .int v21, .int v22, .int (nI n23), .int (nI n25), .ref (a 22), .ref (a 23), .ref (a 24), .ref (a 25), .ref (a 26), .ref (a 27), .ref (a 28), .ref (a 29), .ref (a 30), .int kf]) := ⟨_, rfl⟩
      refine x_put C (ci := 11) (k := 6) (ty := .int) 0 k43 rfl in_X12 tyX12 tyX12_ok nmX12 (by decide) w_1124 rfl rfl rfl rfl (Nat.le_of_ble_eq_true rfl) hw45.symm dX12_law_28 rfl ?_
      have hW46 : WX (okM E a cd kf jn js jq) w44 := by rw [hw45]; exact hW42.set (k := 0) rfl ⟨n2, 0, j34, v8, v9, v10, n11, n13, n15, n17, v19, v20, v21, v22, n23, n25, by omega, by omega, by omega, by omega, by omega, by omega, by omega, by omega, by omega, rfl⟩
      have k47 : w44[0]? = some (ob (a 0) 11 [.ref (a 1), .ref (a 2), .ref (a 3), .ref (a 4), .int (nI n2), .int 0, .int (nI j34), .int v8, .int v9, .int v10, .int (nI n11), .int (nI n13), .int (nI n15), .int (nI (cd.2.2.2.2.2)), .ref (a 5), .ref (a 6), .ref (a 7), .ref (a 8), .ref (a 9), .ref (a 10), .ref (a 11), .ref (a 12), .ref (a 13), .ref (a 14), .ref (a 15), .ref (a 16), .ref (a 17), .int (nI n17), .ref (a 18), .ref (a 19), .ref (a 20), .ref (a 21), .int v19, .int v20, .int v21, .int v22, .int (nI n23), .int (nI n25), .ref (a 22), .ref (a 23), .ref (a 24), .ref (a 25), .ref (a 26), .ref (a 27), .ref (a 28), .ref (a 29), .ref (a 30), .int kf]) := by rw [hw45]; exact set_eq k43
      refine x_aload_n C dX12_law_31 rfl 0 rfl rfl ?_
      refine x_iconst C (v := 0) dX12_law_32 (by decide) rfl ?_
      obtain ⟨w48, hw49⟩ : ∃ w : va_W, w = List.set w44 0 (ob (a 0) 11 [.ref (a 1), .ref (a 2), .ref (a 3), .ref (a 4), .int (nI n2), .int 0, .int (nI j34), .int v8, .int v9, .int v10, .int 0, .int (nI n13), .int (nI n15), .int (nI (cd.2.2.2.2.2)), .ref (a 5), .ref (a 6), .ref (a 7), .ref (a 8), .ref (a 9), .ref (a 10), .ref (a 11), .ref (a 12), .ref (a 13), .ref (a 14), .ref (a 15), .ref (a 16), .ref (a 17), .int (nI n17), .ref (a 18), .ref (a 19), .ref (a 20), .ref (a 21), .int v19, .int v20, .int v21, .int v22, .int (nI n23), .int (nI n25), .ref (a 22), .ref (a 23), .ref (a 24), .ref (a 25), .ref (a 26), .ref (a 27), .ref (a 28), .ref (a 29), .ref (a 30), .int kf]) := ⟨_, rfl⟩
      refine x_put C (ci := 11) (k := 10) (ty := .int) 0 k47 rfl in_X12 tyX12 tyX12_ok nmX12 (by decide) w_1128 rfl rfl rfl rfl (Nat.le_of_ble_eq_true rfl) hw49.symm dX12_law_33 rfl ?_
      have hW50 : WX (okM E a cd kf jn js jq) w48 := by rw [hw49]; exact hW46.set (k := 0) rfl ⟨n2, 0, j34, v8, v9, v10, 0, n13, n15, n17, v19, v20, v21, v22, n23, n25, by omega, by omega, by omega, by omega, by omega, by omega, by omega, by omega, by omega, rfl⟩
      have k51 : w48[0]? = some (ob (a 0) 11 [.ref (a 1), .ref (a 2), .ref (a 3), .ref (a 4), .int (nI n2), .int 0, .int (nI j34), .int v8, .int v9, .int v10, .int 0, .int (nI n13), .int (nI n15), .int (nI (cd.2.2.2.2.2)), .ref (a 5), .ref (a 6), .ref (a 7), .ref (a 8), .ref (a 9), .ref (a 10), .ref (a 11), .ref (a 12), .ref (a 13), .ref (a 14), .ref (a 15), .ref (a 16), .ref (a 17), .int (nI n17), .ref (a 18), .ref (a 19), .ref (a 20), .ref (a 21), .int v19, .int v20, .int v21, .int v22, .int (nI n23), .int (nI n25), .ref (a 22), .ref (a 23), .ref (a 24), .ref (a 25), .ref (a 26), .ref (a 27), .ref (a 28), .ref (a 29), .ref (a 30), .int kf]) := by rw [hw49]; exact set_eq k47
      refine x_aload_n C dX12_law_36 rfl 0 rfl rfl ?_
      refine x_iconst C (v := 0) dX12_law_37 (by decide) rfl ?_
      obtain ⟨w52, hw53⟩ : ∃ w : va_W, w = List.set w48 0 (ob (a 0) 11 [.ref (a 1), .ref (a 2), .ref (a 3), .ref (a 4), .int (nI n2), .int 0, .int (nI j34), .int v8, .int v9, .int v10, .int 0, .int (nI n13), .int 0, .int (nI (cd.2.2.2.2.2)), .ref (a 5), .ref (a 6), .ref (a 7), .ref (a 8), .ref (a 9), .ref (a 10), .ref (a 11), .ref (a 12), .ref (a 13), .ref (a 14), .ref (a 15), .ref (a 16), .ref (a 17), .int (nI n17), .ref (a 18), .ref (a 19), .ref (a 20), .ref (a 21), .int v19, .int v20, .int v21, .int v22, .int (nI n23), .int (nI n25), .ref (a 22), .ref (a 23), .ref (a 24), .ref (a 25), .ref (a 26), .ref (a 27), .ref (a 28), .ref (a 29), .ref (a 30), .int kf]) := ⟨_, rfl⟩
      refine x_put C (ci := 11) (k := 12) (ty := .int) 0 k51 rfl in_X12 tyX12 tyX12_ok nmX12 (by decide) w_1130 rfl rfl rfl rfl (Nat.le_of_ble_eq_true rfl) hw53.symm dX12_law_38 rfl ?_
      have hW54 : WX (okM E a cd kf jn js jq) w52 := by rw [hw53]; exact hW50.set (k := 0) rfl ⟨n2, 0, j34, v8, v9, v10, 0, n13, 0, n17, v19, v20, v21, v22, n23, n25, by omega, by omega, by omega, by omega, by omega, by omega, by omega, by omega, by omega, rfl⟩
      have k55 : w52[0]? = some (ob (a 0) 11 [.ref (a 1), .ref (a 2), .ref (a 3), .ref (a 4), .int (nI n2), .int 0, .int (nI j34), .int v8, .int v9, .int v10, .int 0, .int (nI n13), .int 0, .int (nI (cd.2.2.2.2.2)), .ref (a 5), .ref (a 6), .ref (a 7), .ref (a 8), .ref (a 9), .ref (a 10), .ref (a 11), .ref (a 12), .ref (a 13), .ref (a 14), .ref (a 15), .ref (a 16), .ref (a 17), .int (nI n17), .ref (a 18), .ref (a 19), .ref (a 20), .ref (a 21), .int v19, .int v20, .int v21, .int v22, .int (nI n23), .int (nI n25), .ref (a 22), .ref (a 23), .ref (a 24), .ref (a 25), .ref (a 26), .ref (a 27), .ref (a 28), .ref (a 29), .ref (a 30), .int kf]) := by rw [hw53]; exact set_eq k51
      obtain ⟨_, k56, f57, rfl⟩ := hW54 4 _ rfl
      obtain ⟨_, k58, f59, rfl⟩ := hW54 5 _ rfl
      obtain ⟨_, k60, f61, rfl⟩ := hW54 6 _ rfl
      obtain ⟨_, k62, f63, rfl⟩ := hW54 8 _ rfl
      obtain ⟨_, k64, f65, rfl⟩ := hW54 9 _ rfl
      obtain ⟨_, k66, f67, rfl⟩ := hW54 10 _ rfl
      refine x_aload_n C dX12_law_41 rfl 0 rfl rfl ?_
      refine x_vi C (As := []) (rest := []) (m_readsClause E l a cd hG kf jn js jq w52 hW54 n2 0 j34 0 n13 0 n17 v9 ⟨v8, v10, v19, v20, v21, v22, n23, n25, ⟨by omega, by omega, by omega, by omega, by omega, by omega, by omega⟩, ⟨by omega, by omega⟩, k55⟩ f57 k56 (by omega) f59 k58 f61 k60 f63 k62 f65 k64 f67 k66 (by omega) (fun q hq => absurd hq (by omega))) mf_X12_readsClause w_1313 0 k55 rfl rfl rfl (Nat.le_of_ble_eq_true rfl) ⟨(Nat.le_of_ble_eq_true rfl), (Nat.le_of_ble_eq_true rfl)⟩ ⟨(Nat.le_of_ble_eq_true rfl), (Nat.le_of_ble_eq_true rfl)⟩ dX12_law_42 rfl (fun r69 w70 h68 => ?_)
      obtain ⟨hW71, kq72, zb73, x74⟩ := h68
      have k75 : w70[4]? = some (bA E (a 4) 260 f57) := keeps_at kq72 k56 (by first | decide | omega | (dsimp only; omega))
      rcases x74 with ⟨e76, rf77⟩ | ⟨e78, pl79, cm80, wt81, fs82, fw83, g884, g985, g1086, hq87, hq88, hq89, hq90, hq91, hq92, hq93, hq94⟩
      · refine x_top e76 ?_
        obtain ⟨pl95, cm96, wt97, fs98, fw99, rs100⟩ := rf77
        obtain ⟨⟨nu101, mo102⟩, k103, k104⟩ := rs100
        obtain ⟨v105, v106, v107, v108, v109, v110, n111, n112, bo113, bo114, k115⟩ := mo102
        refine x_istore_n C (lv' := [(2, .int 0), (0, .ref (a 0)), (1, .int (nI j34))]) dX12_law_45 rfl (by decide) rfl rfl ?_
        refine x_iload_n C dX12_law_46 rfl 0 rfl rfl ?_
        refine x_if_eq C (tgt := 86) dX12_law_47 (by decide) rfl (fun _ => ?_) (fun h => absurd h (by decide))
        refine x_aload_n C dX12_law_86 rfl 1 rfl rfl ?_
        refine x_iconst C (v := 0) dX12_law_87 (by decide) rfl ?_
        obtain ⟨w116, hw117⟩ : ∃ w : va_W, w = List.set w70 0 (ob (a 0) 11 [.ref (a 1), .ref (a 2), .ref (a 3), .ref (a 4), .int 0, .int (nI pl95), .int (nI j34), .int v105, .int nu101, .int v106, .int (nI cm96), .int (nI wt97), .int (nI 0), .int (nI (cd.2.2.2.2.2)), .ref (a 5), .ref (a 6), .ref (a 7), .ref (a 8), .ref (a 9), .ref (a 10), .ref (a 11), .ref (a 12), .ref (a 13), .ref (a 14), .ref (a 15), .ref (a 16), .ref (a 17), .int (nI n17), .ref (a 18), .ref (a 19), .ref (a 20), .ref (a 21), .int v107, .int v108, .int v109, .int v110, .int (nI n111), .int (nI n112), .ref (a 22), .ref (a 23), .ref (a 24), .ref (a 25), .ref (a 26), .ref (a 27), .ref (a 28), .ref (a 29), .ref (a 30), .int kf]) := ⟨_, rfl⟩
        refine x_put C (ci := 11) (k := 4) (ty := .int) 0 k115 rfl in_X12 tyX12 tyX12_ok nmX12 (by decide) w_1122 rfl rfl rfl rfl (Nat.le_of_ble_eq_true rfl) hw117.symm dX12_law_88 rfl ?_
        have hW118 : WX (okM E a cd kf jn js jq) w116 := by rw [hw117]; exact hW71.set (k := 0) rfl ⟨0, pl95, j34, v105, nu101, v106, cm96, wt97, 0, n17, v107, v108, v109, v110, n111, n112, by omega, by omega, by omega, by omega, by omega, by omega, by omega, by omega, by omega, rfl⟩
        have k119 : w116[4]? = some (bA E (a 4) 260 f57) := by rw [hw117]; exact set_ne k75 (by decide)
        have k120 : w116[0]? = some (ob (a 0) 11 [.ref (a 1), .ref (a 2), .ref (a 3), .ref (a 4), .int 0, .int (nI pl95), .int (nI j34), .int v105, .int nu101, .int v106, .int (nI cm96), .int (nI wt97), .int (nI 0), .int (nI (cd.2.2.2.2.2)), .ref (a 5), .ref (a 6), .ref (a 7), .ref (a 8), .ref (a 9), .ref (a 10), .ref (a 11), .ref (a 12), .ref (a 13), .ref (a 14), .ref (a 15), .ref (a 16), .ref (a 17), .int (nI n17), .ref (a 18), .ref (a 19), .ref (a 20), .ref (a 21), .int v107, .int v108, .int v109, .int v110, .int (nI n111), .int (nI n112), .ref (a 22), .ref (a 23), .ref (a 24), .ref (a 25), .ref (a 26), .ref (a 27), .ref (a 28), .ref (a 29), .ref (a 30), .int kf]) := by rw [hw117]; exact set_eq k115
        have k121 : w116[5]? = some (iA E (a 5) 260 fs98) := by rw [hw117]; exact set_ne k103 (by decide)
        have k122 : w116[6]? = some (iA E (a 6) 260 fw99) := by rw [hw117]; exact set_ne k104 (by decide)
        refine x_iload_n C dX12_law_91 rfl 0 rfl rfl ?_
        refine x_if_ne C (tgt := 100) dX12_law_92 (by decide) rfl (fun h => absurd h (by decide)) (fun _ => ?_)
        refine x_aload_n C dX12_law_95 rfl 1 rfl rfl ?_
        refine x_get C (ci := 11) (k := 7) 0 k120 rfl in_X12 (by decide) w_1125 rfl dX12_law_96 rfl ?_
        exact x_zret C hr hlk rfl dX12_law_99 ⟨cd, hG, hW118⟩
      · refine x_top e78 ?_
        obtain ⟨⟨nu123, mo124⟩, k125, k126⟩ := hq89
        obtain ⟨v127, v128, v129, v130, v131, v132, n133, n134, bo135, bo136, k137⟩ := mo124
        refine x_istore_n C (lv' := [(2, .int 1), (0, .ref (a 0)), (1, .int (nI j34))]) dX12_law_45 rfl (by decide) rfl rfl ?_
        have loop46 : ∀ (fu46 : Nat) (px : Nat) (cx : Nat) (wx : Nat) (sx : Nat) (nz : Int32) (fx : Nat → Int32) (gx : Nat → Int32) (f8x : Nat → Int32) (f9x : Nat → Int32) (f10x : Nat → Int32) (wl46 : va_W), WX (okM E a cd kf jn js jq) wl46 → j34 - px < fu46 → MO a cd kf wl46 n2 px j34 cx wx sx n17 nz → wl46[4]? = some (bA E (a 4) 260 f57) → wl46[5]? = some (iA E (a 5) 260 fx) → wl46[6]? = some (iA E (a 6) 260 gx) → wl46[8]? = some (iA E (a 8) 16 f8x) → wl46[9]? = some (iA E (a 9) 16 f9x) → wl46[10]? = some (iA E (a 10) 16 f10x) → KL fx f8x f9x f10x sx cx → cx ≤ px ∧ px ≤ j34 → X E p l e (xRm 10 0 0) s m ([.ref (a 0), .int (nI j34)] : List Value).toArray below meth c A 4 0 0 (MQ below (va_Qi (fun r w => ∃ cd2 : Cd, Good cd2 ∧ WX (okM E a cd2 kf jn js jq) w) (xB E A) A) ([.ref (a 0), .int (nI j34)] : List Value).toArray s 0 0 A) wl46 46 [(0, .ref (a 0)), (1, .int (nI j34)), (2, .int 1)] [] := by
          intro fu46
          induction fu46 with
          | zero => intro px cx wx sx nz fx gx f8x f9x f10x wl46 _ q; omega
          | succ fu46 ih46 =>
            intro px cx wx sx nz fx gx f8x f9x f10x wl46 hWl46 me46 iv46_0 iv46_1 iv46_2 iv46_3 iv46_4 iv46_5 iv46_6 iv46_7 iv46_8
            obtain ⟨v138, v139, v140, v141, v142, v143, n144, n145, bo146, bo147, k148⟩ := iv46_0
            refine x_iload_n C dX12_law_46 rfl 2 rfl rfl ?_
            refine x_if_eq C (tgt := 86) dX12_law_47 (by decide) rfl (fun h => absurd h (by decide)) (fun _ => ?_)
            refine x_aload_n C dX12_law_50 rfl 0 rfl rfl ?_
            refine x_get C (ci := 11) (k := 5) 0 k148 rfl in_X12 (by decide) w_1123 rfl dX12_law_51 rfl ?_
            refine x_aload_n C dX12_law_54 rfl 0 rfl rfl ?_
            refine x_get C (ci := 11) (k := 6) 0 k148 rfl in_X12 (by decide) w_1124 rfl dX12_law_55 rfl ?_
            refine x_icmp_ge C (tgt := 86) dX12_law_58 (by decide) rfl (fun c149 => ?_) (fun c149 => ?_)
            · skip
              have nf150 := nI_le' (a := j34) (b := px) c149 (by omega) (by omega)
              refine x_aload_n C dX12_law_86 rfl 0 rfl rfl ?_
              refine x_iconst C (v := 0) dX12_law_87 (by decide) rfl ?_
              obtain ⟨w151, hw152⟩ : ∃ w : va_W, w = List.set wl46 0 (ob (a 0) 11 [.ref (a 1), .ref (a 2), .ref (a 3), .ref (a 4), .int 0, .int (nI px), .int (nI j34), .int v138, .int nz, .int v139, .int (nI cx), .int (nI wx), .int (nI sx), .int (nI (cd.2.2.2.2.2)), .ref (a 5), .ref (a 6), .ref (a 7), .ref (a 8), .ref (a 9), .ref (a 10), .ref (a 11), .ref (a 12), .ref (a 13), .ref (a 14), .ref (a 15), .ref (a 16), .ref (a 17), .int (nI n17), .ref (a 18), .ref (a 19), .ref (a 20), .ref (a 21), .int v140, .int v141, .int v142, .int v143, .int (nI n144), .int (nI n145), .ref (a 22), .ref (a 23), .ref (a 24), .ref (a 25), .ref (a 26), .ref (a 27), .ref (a 28), .ref (a 29), .ref (a 30), .int kf]) := ⟨_, rfl⟩
              refine x_put C (ci := 11) (k := 4) (ty := .int) 0 k148 rfl in_X12 tyX12 tyX12_ok nmX12 (by decide) w_1122 rfl rfl rfl rfl (Nat.le_of_ble_eq_true rfl) hw152.symm dX12_law_88 rfl ?_
              have hW153 : WX (okM E a cd kf jn js jq) w151 := by rw [hw152]; exact hWl46.set (k := 0) rfl ⟨0, px, j34, v138, nz, v139, cx, wx, sx, n17, v140, v141, v142, v143, n144, n145, by omega, by omega, by omega, by omega, by omega, by omega, by omega, by omega, by omega, rfl⟩
              have k154 : w151[0]? = some (ob (a 0) 11 [.ref (a 1), .ref (a 2), .ref (a 3), .ref (a 4), .int 0, .int (nI px), .int (nI j34), .int v138, .int nz, .int v139, .int (nI cx), .int (nI wx), .int (nI sx), .int (nI (cd.2.2.2.2.2)), .ref (a 5), .ref (a 6), .ref (a 7), .ref (a 8), .ref (a 9), .ref (a 10), .ref (a 11), .ref (a 12), .ref (a 13), .ref (a 14), .ref (a 15), .ref (a 16), .ref (a 17), .int (nI n17), .ref (a 18), .ref (a 19), .ref (a 20), .ref (a 21), .int v140, .int v141, .int v142, .int v143, .int (nI n144), .int (nI n145), .ref (a 22), .ref (a 23), .ref (a 24), .ref (a 25), .ref (a 26), .ref (a 27), .ref (a 28), .ref (a 29), .ref (a 30), .int kf]) := by rw [hw152]; exact set_eq k148
              have k155 : w151[4]? = some (bA E (a 4) 260 f57) := by rw [hw152]; exact set_ne iv46_1 (by decide)
              have k156 : w151[5]? = some (iA E (a 5) 260 fx) := by rw [hw152]; exact set_ne iv46_2 (by decide)
              have k157 : w151[6]? = some (iA E (a 6) 260 gx) := by rw [hw152]; exact set_ne iv46_3 (by decide)
              have k158 : w151[8]? = some (iA E (a 8) 16 f8x) := by rw [hw152]; exact set_ne iv46_4 (by decide)
              have k159 : w151[9]? = some (iA E (a 9) 16 f9x) := by rw [hw152]; exact set_ne iv46_5 (by decide)
              have k160 : w151[10]? = some (iA E (a 10) 16 f10x) := by rw [hw152]; exact set_ne iv46_6 (by decide)
              refine x_iload_n C dX12_law_91 rfl 2 rfl rfl ?_
              refine x_if_ne C (tgt := 100) dX12_law_92 (by decide) rfl (fun _ => ?_) (fun h => absurd h (by decide))
              refine x_aload_n C dX12_law_100 rfl 0 rfl rfl ?_
              refine x_aload_n C dX12_law_101 rfl 0 rfl rfl ?_
              refine x_get C (ci := 11) (k := 12) 0 k154 rfl in_X12 (by decide) w_1130 rfl dX12_law_102 rfl ?_
              obtain ⟨w161, hw162⟩ : ∃ w : va_W, w = List.set w151 0 (ob (a 0) 11 [.ref (a 1), .ref (a 2), .ref (a 3), .ref (a 4), .int 0, .int (nI px), .int (nI j34), .int v138, .int nz, .int v139, .int (nI cx), .int (nI wx), .int (nI sx), .int (nI sx), .ref (a 5), .ref (a 6), .ref (a 7), .ref (a 8), .ref (a 9), .ref (a 10), .ref (a 11), .ref (a 12), .ref (a 13), .ref (a 14), .ref (a 15), .ref (a 16), .ref (a 17), .int (nI n17), .ref (a 18), .ref (a 19), .ref (a 20), .ref (a 21), .int v140, .int v141, .int v142, .int v143, .int (nI n144), .int (nI n145), .ref (a 22), .ref (a 23), .ref (a 24), .ref (a 25), .ref (a 26), .ref (a 27), .ref (a 28), .ref (a 29), .ref (a 30), .int kf]) := ⟨_, rfl⟩
              refine x_put C (ci := 11) (k := 13) (ty := .int) 0 k154 rfl in_X12 tyX12 tyX12_ok nmX12 (by decide) w_1131 rfl rfl rfl rfl (Nat.le_of_ble_eq_true rfl) hw162.symm dX12_law_105 rfl ?_
              have k163 : w161[0]? = some (ob (a 0) 11 [.ref (a 1), .ref (a 2), .ref (a 3), .ref (a 4), .int 0, .int (nI px), .int (nI j34), .int v138, .int nz, .int v139, .int (nI cx), .int (nI wx), .int (nI sx), .int (nI sx), .ref (a 5), .ref (a 6), .ref (a 7), .ref (a 8), .ref (a 9), .ref (a 10), .ref (a 11), .ref (a 12), .ref (a 13), .ref (a 14), .ref (a 15), .ref (a 16), .ref (a 17), .int (nI n17), .ref (a 18), .ref (a 19), .ref (a 20), .ref (a 21), .int v140, .int v141, .int v142, .int v143, .int (nI n144), .int (nI n145), .ref (a 22), .ref (a 23), .ref (a 24), .ref (a 25), .ref (a 26), .ref (a 27), .ref (a 28), .ref (a 29), .ref (a 30), .int kf]) := by rw [hw162]; exact set_eq k154
              have hW164 : WX (okM E a (cd.1, cd.2.1, cd.2.2.1, cd.2.2.2.1, cd.2.2.2.2.1, sx) kf jn js jq) w161 := by rw [hw162]; exact wx_cl hW153 (set_eq k154) (show MO a (cd.1, cd.2.1, cd.2.2.1, cd.2.2.2.1, cd.2.2.2.2.1, sx) kf _ 0 px j34 cx wx sx n17 nz from ⟨v138, v139, v140, v141, v142, v143, n144, n145, ⟨by omega, by omega, by omega, by omega, by omega, by omega, by omega⟩, ⟨by omega, by omega⟩, (set_eq k154)⟩)
              have k165 : w161[4]? = some (bA E (a 4) 260 f57) := by rw [hw162]; exact set_ne k155 (by decide)
              have k166 : w161[5]? = some (iA E (a 5) 260 fx) := by rw [hw162]; exact set_ne k156 (by decide)
              have k167 : w161[6]? = some (iA E (a 6) 260 gx) := by rw [hw162]; exact set_ne k157 (by decide)
              have k168 : w161[8]? = some (iA E (a 8) 16 f8x) := by rw [hw162]; exact set_ne k158 (by decide)
              have k169 : w161[9]? = some (iA E (a 9) 16 f9x) := by rw [hw162]; exact set_ne k159 (by decide)
              have k170 : w161[10]? = some (iA E (a 10) 16 f10x) := by rw [hw162]; exact set_ne k160 (by decide)
              refine x_iconst C (v := 0) dX12_law_108 (by decide) rfl ?_
              refine x_istore_n C (lv' := [(3, .int 0), (0, .ref (a 0)), (1, .int (nI j34)), (2, .int 1)]) dX12_law_109 rfl (by decide) rfl rfl ?_
              have loop110 : ∀ (fu110 : Nat) (k : Nat) (cv : Cd) (wl110 : va_W), WX (okM E a cv kf jn js jq) wl110 → cx - k < fu110 → MO a cv kf wl110 0 px j34 cx wx sx n17 nz → wl110[5]? = some (iA E (a 5) 260 fx) → wl110[8]? = some (iA E (a 8) 16 f8x) → wl110[9]? = some (iA E (a 9) 16 f9x) → wl110[10]? = some (iA E (a 10) 16 f10x) → cv.2 = (cd.1, cd.2.1, cd.2.2.1, cd.2.2.2.1, cd.2.2.2.2.1, sx).2 → (∀ j, j < k → cv.1 j = fx j) → k ≤ cx → X E p l e (xRm 10 0 0) s m ([.ref (a 0), .int (nI j34)] : List Value).toArray below meth c A 4 0 0 (MQ below (va_Qi (fun r w => ∃ cd2 : Cd, Good cd2 ∧ WX (okM E a cd2 kf jn js jq) w) (xB E A) A) ([.ref (a 0), .int (nI j34)] : List Value).toArray s 0 0 A) wl110 110 [(0, .ref (a 0)), (1, .int (nI j34)), (2, .int 1), (3, .int (nI k))] [] := by
                intro fu110
                induction fu110 with
                | zero => intro k cv wl110 _ q; omega
                | succ fu110 ih110 =>
                  intro k cv wl110 hWl110 me110 iv110_0 iv110_1 iv110_2 iv110_3 iv110_4 iv110_5 iv110_6 iv110_7
                  obtain ⟨v171, v172, v173, v174, v175, v176, n177, n178, bo179, bo180, k181⟩ := iv110_0
                  refine x_iload_n C dX12_law_110 rfl 3 rfl rfl ?_
                  refine x_aload_n C dX12_law_111 rfl 0 rfl rfl ?_
                  refine x_get C (ci := 11) (k := 10) 0 k181 rfl in_X12 (by decide) w_1128 rfl dX12_law_112 rfl ?_
                  refine x_icmp_ge C (tgt := 136) dX12_law_115 (by decide) rfl (fun c182 => ?_) (fun c182 => ?_)
                  · skip
                    have nf183 := nI_le' (a := cx) (b := k) c182 (by omega) (by omega)
                    refine x_iconst C (v := 0) dX12_law_136 (by decide) rfl ?_
                    refine x_istore_n C (lv' := [(3, .int 0), (0, .ref (a 0)), (1, .int (nI j34)), (2, .int 1)]) dX12_law_137 rfl (by decide) rfl rfl ?_
                    have loop138 : ∀ (fu138 : Nat) (q : Nat) (cu : Cd) (wl138 : va_W), WX (okM E a cu kf jn js jq) wl138 → sx - q < fu138 → MO a cu kf wl138 0 px j34 cx wx sx n17 nz → wl138[8]? = some (iA E (a 8) 16 f8x) → wl138[9]? = some (iA E (a 9) 16 f9x) → wl138[10]? = some (iA E (a 10) 16 f10x) → cu.1 = cv.1 → cu.2.2.2.2.2 = sx → (∀ j, j < q → cu.2.2.1 j = f8x j) → (∀ j, j < q → cu.2.2.2.1 j = f9x j) → (∀ j, j < q → cu.2.2.2.2.1 j = f10x j) → q ≤ sx → X E p l e (xRm 10 0 0) s m ([.ref (a 0), .int (nI j34)] : List Value).toArray below meth c A 4 0 0 (MQ below (va_Qi (fun r w => ∃ cd2 : Cd, Good cd2 ∧ WX (okM E a cd2 kf jn js jq) w) (xB E A) A) ([.ref (a 0), .int (nI j34)] : List Value).toArray s 0 0 A) wl138 138 [(0, .ref (a 0)), (1, .int (nI j34)), (2, .int 1), (3, .int (nI q))] [] := by
                      intro fu138
                      induction fu138 with
                      | zero => intro q cu wl138 _ q; omega
                      | succ fu138 ih138 =>
                        intro q cu wl138 hWl138 me138 iv138_0 iv138_1 iv138_2 iv138_3 iv138_4 iv138_5 iv138_6 iv138_7 iv138_8 iv138_9
                        obtain ⟨v184, v185, v186, v187, v188, v189, n190, n191, bo192, bo193, k194⟩ := iv138_0
                        refine x_iload_n C dX12_law_138 rfl 3 rfl rfl ?_
                        refine x_aload_n C dX12_law_139 rfl 0 rfl rfl ?_
                        refine x_get C (ci := 11) (k := 12) 0 k194 rfl in_X12 (by decide) w_1130 rfl dX12_law_140 rfl ?_
                        refine x_icmp_ge C (tgt := 200) dX12_law_143 (by decide) rfl (fun c195 => ?_) (fun c195 => ?_)
                        · skip
                          have nf196 := nI_le' (a := sx) (b := q) c195 (by omega) (by omega)
                          refine x_aload_n C dX12_law_200 rfl 0 rfl rfl ?_
                          refine x_get C (ci := 11) (k := 12) 0 k194 rfl in_X12 (by decide) w_1130 rfl dX12_law_201 rfl ?_
                          exact x_zret C hr hlk rfl dX12_law_204 ⟨cu, Good_of iv46_7 (by omega) iv138_5 (fun k9 h9 => by rw [iv138_4]; exact iv110_6 k9 (by omega)) (fun q9 h9 => iv138_6 q9 (by omega)) (fun q9 h9 => iv138_7 q9 (by omega)) (fun q9 h9 => iv138_8 q9 (by omega)), hWl138⟩
                        · skip
                          have nf197 := nI_nle' (a := sx) (b := q) c195 (by omega) (by omega)
                          refine x_aload_n C dX12_law_146 rfl 0 rfl rfl ?_
                          refine x_get C (ci := 11) (k := 21) 0 k194 rfl in_X12 (by decide) w_1139 rfl dX12_law_147 rfl ?_
                          refine x_iload_n C dX12_law_150 rfl 3 rfl rfl ?_
                          refine x_aload_n C dX12_law_151 rfl 0 rfl rfl ?_
                          refine x_get C (ci := 11) (k := 16) 0 k194 rfl in_X12 (by decide) w_1134 rfl dX12_law_152 rfl ?_
                          refine x_iload_n C dX12_law_155 rfl 3 rfl rfl ?_
                          obtain ⟨_, k198, f199, rfl⟩ := hWl138 7 _ rfl
                          refine x_iald C (v := (f199 (nI q).toNatClampNeg)) 7 k198 (vp_in_nI (by omega) (by decide)) rfl dX12_law_156 rfl ?_
                          refine x_any (fun v200 => ?_)
                          obtain ⟨_, k201, rfl⟩ := hWl138 12 _ rfl
                          obtain ⟨w202, hw203⟩ : ∃ w : va_W, w = List.set wl138 12 (iA E (a 12) 16 (upd cu.2.1 q v200)) := ⟨_, rfl⟩
                          refine x_iask C q (nI_clamp (by omega)) (nI_pos (by omega)) (by omega) 12 k201 hw203.symm dX12_law_157 rfl ?_
                          have k204 : w202[12]? = some (iA E (a 12) 16 (upd cu.2.1 q v200)) := by rw [hw203]; exact set_eq k201
                          have hW205 : WX (okM E a (cu.1, (upd cu.2.1 q v200), cu.2.2) kf jn js jq) w202 := by rw [hw203]; exact wx_12 _ hWl138
                          have k206 : w202[0]? = some (ob (a 0) 11 [.ref (a 1), .ref (a 2), .ref (a 3), .ref (a 4), .int (nI 0), .int (nI px), .int (nI j34), .int v184, .int nz, .int v185, .int (nI cx), .int (nI wx), .int (nI sx), .int (nI (cu.2.2.2.2.2)), .ref (a 5), .ref (a 6), .ref (a 7), .ref (a 8), .ref (a 9), .ref (a 10), .ref (a 11), .ref (a 12), .ref (a 13), .ref (a 14), .ref (a 15), .ref (a 16), .ref (a 17), .int (nI n17), .ref (a 18), .ref (a 19), .ref (a 20), .ref (a 21), .int v186, .int v187, .int v188, .int v189, .int (nI n190), .int (nI n191), .ref (a 22), .ref (a 23), .ref (a 24), .ref (a 25), .ref (a 26), .ref (a 27), .ref (a 28), .ref (a 29), .ref (a 30), .int kf]) := by rw [hw203]; exact set_ne k194 (by decide)
                          have k207 : w202[8]? = some (iA E (a 8) 16 f8x) := by rw [hw203]; exact set_ne iv138_1 (by decide)
                          have k208 : w202[9]? = some (iA E (a 9) 16 f9x) := by rw [hw203]; exact set_ne iv138_2 (by decide)
                          have k209 : w202[10]? = some (iA E (a 10) 16 f10x) := by rw [hw203]; exact set_ne iv138_3 (by decide)
                          have k210 : w202[7]? = some (iA E (a 7) 16 f199) := by rw [hw203]; exact set_ne k198 (by decide)
                          refine x_aload_n C dX12_law_158 rfl 0 rfl rfl ?_
                          refine x_get C (ci := 11) (k := 22) 0 k206 rfl in_X12 (by decide) w_1140 rfl dX12_law_159 rfl ?_
                          refine x_iload_n C dX12_law_162 rfl 3 rfl rfl ?_
                          refine x_aload_n C dX12_law_163 rfl 0 rfl rfl ?_
                          refine x_get C (ci := 11) (k := 17) 0 k206 rfl in_X12 (by decide) w_1135 rfl dX12_law_164 rfl ?_
                          refine x_iload_n C dX12_law_167 rfl 3 rfl rfl ?_
                          refine x_ialk C (v := (f8x q)) q (nI_clamp (by omega)) (nI_pos (by omega)) (by omega) 8 k207 rfl dX12_law_168 rfl ?_
                          obtain ⟨_, k211, rfl⟩ := hW205 13 _ rfl
                          obtain ⟨w212, hw213⟩ : ∃ w : va_W, w = List.set w202 13 (iA E (a 13) 16 (upd cu.2.2.1 q (f8x q))) := ⟨_, rfl⟩
                          refine x_iask C q (nI_clamp (by omega)) (nI_pos (by omega)) (by omega) 13 k211 hw213.symm dX12_law_169 rfl ?_
                          have k214 : w212[13]? = some (iA E (a 13) 16 (upd cu.2.2.1 q (f8x q))) := by rw [hw213]; exact set_eq k211
                          have hW215 : WX (okM E a (cu.1, (upd cu.2.1 q v200), (upd cu.2.2.1 q (f8x q)), cu.2.2.2) kf jn js jq) w212 := by rw [hw213]; exact wx_13 _ hW205
                          have k216 : w212[0]? = some (ob (a 0) 11 [.ref (a 1), .ref (a 2), .ref (a 3), .ref (a 4), .int (nI 0), .int (nI px), .int (nI j34), .int v184, .int nz, .int v185, .int (nI cx), .int (nI wx), .int (nI sx), .int (nI (cu.2.2.2.2.2)), .ref (a 5), .ref (a 6), .ref (a 7), .ref (a 8), .ref (a 9), .ref (a 10), .ref (a 11), .ref (a 12), .ref (a 13), .ref (a 14), .ref (a 15), .ref (a 16), .ref (a 17), .int (nI n17), .ref (a 18), .ref (a 19), .ref (a 20), .ref (a 21), .int v186, .int v187, .int v188, .int v189, .int (nI n190), .int (nI n191), .ref (a 22), .ref (a 23), .ref (a 24), .ref (a 25), .ref (a 26), .ref (a 27), .ref (a 28), .ref (a 29), .ref (a 30), .int kf]) := by rw [hw213]; exact set_ne k206 (by decide)
                          have k217 : w212[8]? = some (iA E (a 8) 16 f8x) := by rw [hw213]; exact set_ne k207 (by decide)
                          have k218 : w212[9]? = some (iA E (a 9) 16 f9x) := by rw [hw213]; exact set_ne k208 (by decide)
                          have k219 : w212[10]? = some (iA E (a 10) 16 f10x) := by rw [hw213]; exact set_ne k209 (by decide)
                          have k220 : w212[7]? = some (iA E (a 7) 16 f199) := by rw [hw213]; exact set_ne k210 (by decide)
                          have k221 : w212[12]? = some (iA E (a 12) 16 (upd cu.2.1 q v200)) := by rw [hw213]; exact set_ne k204 (by decide)
                          refine x_aload_n C dX12_law_170 rfl 0 rfl rfl ?_
                          refine x_get C (ci := 11) (k := 23) 0 k216 rfl in_X12 (by decide) w_1141 rfl dX12_law_171 rfl ?_
                          refine x_iload_n C dX12_law_174 rfl 3 rfl rfl ?_
                          refine x_aload_n C dX12_law_175 rfl 0 rfl rfl ?_
                          refine x_get C (ci := 11) (k := 18) 0 k216 rfl in_X12 (by decide) w_1136 rfl dX12_law_176 rfl ?_
                          refine x_iload_n C dX12_law_179 rfl 3 rfl rfl ?_
                          refine x_ialk C (v := (f9x q)) q (nI_clamp (by omega)) (nI_pos (by omega)) (by omega) 9 k218 rfl dX12_law_180 rfl ?_
                          obtain ⟨_, k222, rfl⟩ := hW215 14 _ rfl
                          obtain ⟨w223, hw224⟩ : ∃ w : va_W, w = List.set w212 14 (iA E (a 14) 16 (upd cu.2.2.2.1 q (f9x q))) := ⟨_, rfl⟩
                          refine x_iask C q (nI_clamp (by omega)) (nI_pos (by omega)) (by omega) 14 k222 hw224.symm dX12_law_181 rfl ?_
                          have k225 : w223[14]? = some (iA E (a 14) 16 (upd cu.2.2.2.1 q (f9x q))) := by rw [hw224]; exact set_eq k222
                          have hW226 : WX (okM E a (cu.1, (upd cu.2.1 q v200), (upd cu.2.2.1 q (f8x q)), (upd cu.2.2.2.1 q (f9x q)), cu.2.2.2.2) kf jn js jq) w223 := by rw [hw224]; exact wx_14 _ hW215
                          have k227 : w223[0]? = some (ob (a 0) 11 [.ref (a 1), .ref (a 2), .ref (a 3), .ref (a 4), .int (nI 0), .int (nI px), .int (nI j34), .int v184, .int nz, .int v185, .int (nI cx), .int (nI wx), .int (nI sx), .int (nI (cu.2.2.2.2.2)), .ref (a 5), .ref (a 6), .ref (a 7), .ref (a 8), .ref (a 9), .ref (a 10), .ref (a 11), .ref (a 12), .ref (a 13), .ref (a 14), .ref (a 15), .ref (a 16), .ref (a 17), .int (nI n17), .ref (a 18), .ref (a 19), .ref (a 20), .ref (a 21), .int v186, .int v187, .int v188, .int v189, .int (nI n190), .int (nI n191), .ref (a 22), .ref (a 23), .ref (a 24), .ref (a 25), .ref (a 26), .ref (a 27), .ref (a 28), .ref (a 29), .ref (a 30), .int kf]) := by rw [hw224]; exact set_ne k216 (by decide)
                          have k228 : w223[8]? = some (iA E (a 8) 16 f8x) := by rw [hw224]; exact set_ne k217 (by decide)
                          have k229 : w223[9]? = some (iA E (a 9) 16 f9x) := by rw [hw224]; exact set_ne k218 (by decide)
                          have k230 : w223[10]? = some (iA E (a 10) 16 f10x) := by rw [hw224]; exact set_ne k219 (by decide)
                          have k231 : w223[7]? = some (iA E (a 7) 16 f199) := by rw [hw224]; exact set_ne k220 (by decide)
                          have k232 : w223[12]? = some (iA E (a 12) 16 (upd cu.2.1 q v200)) := by rw [hw224]; exact set_ne k221 (by decide)
                          have k233 : w223[13]? = some (iA E (a 13) 16 (upd cu.2.2.1 q (f8x q))) := by rw [hw224]; exact set_ne k214 (by decide)
                          refine x_aload_n C dX12_law_182 rfl 0 rfl rfl ?_
                          refine x_get C (ci := 11) (k := 24) 0 k227 rfl in_X12 (by decide) w_1142 rfl dX12_law_183 rfl ?_
                          refine x_iload_n C dX12_law_186 rfl 3 rfl rfl ?_
                          refine x_aload_n C dX12_law_187 rfl 0 rfl rfl ?_
                          refine x_get C (ci := 11) (k := 19) 0 k227 rfl in_X12 (by decide) w_1137 rfl dX12_law_188 rfl ?_
                          refine x_iload_n C dX12_law_191 rfl 3 rfl rfl ?_
                          refine x_ialk C (v := (f10x q)) q (nI_clamp (by omega)) (nI_pos (by omega)) (by omega) 10 k230 rfl dX12_law_192 rfl ?_
                          obtain ⟨_, k234, rfl⟩ := hW226 15 _ rfl
                          obtain ⟨w235, hw236⟩ : ∃ w : va_W, w = List.set w223 15 (iA E (a 15) 16 (upd cu.2.2.2.2.1 q (f10x q))) := ⟨_, rfl⟩
                          refine x_iask C q (nI_clamp (by omega)) (nI_pos (by omega)) (by omega) 15 k234 hw236.symm dX12_law_193 rfl ?_
                          have k237 : w235[15]? = some (iA E (a 15) 16 (upd cu.2.2.2.2.1 q (f10x q))) := by rw [hw236]; exact set_eq k234
                          have hW238 : WX (okM E a (cu.1, (upd cu.2.1 q v200), (upd cu.2.2.1 q (f8x q)), (upd cu.2.2.2.1 q (f9x q)), (upd cu.2.2.2.2.1 q (f10x q)), cu.2.2.2.2.2) kf jn js jq) w235 := by rw [hw236]; exact wx_15 _ hW226
                          have k239 : w235[0]? = some (ob (a 0) 11 [.ref (a 1), .ref (a 2), .ref (a 3), .ref (a 4), .int (nI 0), .int (nI px), .int (nI j34), .int v184, .int nz, .int v185, .int (nI cx), .int (nI wx), .int (nI sx), .int (nI (cu.2.2.2.2.2)), .ref (a 5), .ref (a 6), .ref (a 7), .ref (a 8), .ref (a 9), .ref (a 10), .ref (a 11), .ref (a 12), .ref (a 13), .ref (a 14), .ref (a 15), .ref (a 16), .ref (a 17), .int (nI n17), .ref (a 18), .ref (a 19), .ref (a 20), .ref (a 21), .int v186, .int v187, .int v188, .int v189, .int (nI n190), .int (nI n191), .ref (a 22), .ref (a 23), .ref (a 24), .ref (a 25), .ref (a 26), .ref (a 27), .ref (a 28), .ref (a 29), .ref (a 30), .int kf]) := by rw [hw236]; exact set_ne k227 (by decide)
                          have k240 : w235[8]? = some (iA E (a 8) 16 f8x) := by rw [hw236]; exact set_ne k228 (by decide)
                          have k241 : w235[9]? = some (iA E (a 9) 16 f9x) := by rw [hw236]; exact set_ne k229 (by decide)
                          have k242 : w235[10]? = some (iA E (a 10) 16 f10x) := by rw [hw236]; exact set_ne k230 (by decide)
                          have k243 : w235[7]? = some (iA E (a 7) 16 f199) := by rw [hw236]; exact set_ne k231 (by decide)
                          have k244 : w235[12]? = some (iA E (a 12) 16 (upd cu.2.1 q v200)) := by rw [hw236]; exact set_ne k232 (by decide)
                          have k245 : w235[13]? = some (iA E (a 13) 16 (upd cu.2.2.1 q (f8x q))) := by rw [hw236]; exact set_ne k233 (by decide)
                          have k246 : w235[14]? = some (iA E (a 14) 16 (upd cu.2.2.2.1 q (f9x q))) := by rw [hw236]; exact set_ne k225 (by decide)
                          refine x_iinc C (v := (nI (q + 1))) (lv' := [(3, .int (nI (q + 1))), (0, .ref (a 0)), (1, .int (nI j34)), (2, .int 1)]) dX12_law_194 3 rfl (nI_add q 1) (by decide) rfl rfl ?_
                          refine x_goto C (tgt := 138) dX12_law_197 (by decide) ?_
                          refine x_lv (lv1 := [(0, .ref (a 0)), (1, .int (nI j34)), (2, .int 1), (3, .int (nI (q + 1)))]) [1, 2, 3, 0] rfl ?_
                          exact ih138 (q + 1) (cu.1, (upd cu.2.1 q v200), (upd cu.2.2.1 q (f8x q)), (upd cu.2.2.2.1 q (f9x q)), (upd cu.2.2.2.2.1 q (f10x q)), cu.2.2.2.2.2) w235 hW238 (by omega) (show MO a (cu.1, (upd cu.2.1 q v200), (upd cu.2.2.1 q (f8x q)), (upd cu.2.2.2.1 q (f9x q)), (upd cu.2.2.2.2.1 q (f10x q)), cu.2.2.2.2.2) kf _ 0 px j34 cx wx sx n17 nz from ⟨v184, v185, v186, v187, v188, v189, n190, n191, ⟨by omega, by omega, by omega, by omega, by omega, by omega, by omega⟩, ⟨by omega, by omega⟩, k239⟩) k240 k241 k242 iv138_4 iv138_5 (cpy_step iv138_6) (cpy_step iv138_7) (cpy_step iv138_8) (by omega)
                    refine x_lv (lv1 := [(0, .ref (a 0)), (1, .int (nI j34)), (2, .int 1), (3, .int 0)]) [1, 2, 3, 0] rfl ?_
                    exact loop138 _ 0 cv wl110 hWl110 (Nat.lt_succ_self _) (show MO a cv kf _ 0 px j34 cx wx sx n17 nz from ⟨v171, v172, v173, v174, v175, v176, n177, n178, ⟨by omega, by omega, by omega, by omega, by omega, by omega, by omega⟩, ⟨by omega, by omega⟩, k181⟩) iv110_2 iv110_3 iv110_4 rfl (by rw [iv110_5]) (fun j hj => absurd hj (by omega)) (fun j hj => absurd hj (by omega)) (fun j hj => absurd hj (by omega)) (by omega)
                  · skip
                    have nf247 := nI_nle' (a := cx) (b := k) c182 (by omega) (by omega)
                    refine x_aload_n C dX12_law_118 rfl 0 rfl rfl ?_
                    refine x_get C (ci := 11) (k := 20) 0 k181 rfl in_X12 (by decide) w_1138 rfl dX12_law_119 rfl ?_
                    refine x_iload_n C dX12_law_122 rfl 3 rfl rfl ?_
                    refine x_aload_n C dX12_law_123 rfl 0 rfl rfl ?_
                    refine x_get C (ci := 11) (k := 14) 0 k181 rfl in_X12 (by decide) w_1132 rfl dX12_law_124 rfl ?_
                    refine x_iload_n C dX12_law_127 rfl 3 rfl rfl ?_
                    refine x_ialk C (v := (fx k)) k (nI_clamp (by omega)) (nI_pos (by omega)) (by omega) 5 iv110_1 rfl dX12_law_128 rfl ?_
                    obtain ⟨_, k248, rfl⟩ := hWl110 11 _ rfl
                    obtain ⟨w249, hw250⟩ : ∃ w : va_W, w = List.set wl110 11 (iA E (a 11) 260 (upd cv.1 k (fx k))) := ⟨_, rfl⟩
                    refine x_iask C k (nI_clamp (by omega)) (nI_pos (by omega)) (by omega) 11 k248 hw250.symm dX12_law_129 rfl ?_
                    have k251 : w249[11]? = some (iA E (a 11) 260 (upd cv.1 k (fx k))) := by rw [hw250]; exact set_eq k248
                    have hW252 : WX (okM E a ((upd cv.1 k (fx k)), cv.2) kf jn js jq) w249 := by rw [hw250]; exact wx_11 _ hWl110
                    have k253 : w249[0]? = some (ob (a 0) 11 [.ref (a 1), .ref (a 2), .ref (a 3), .ref (a 4), .int (nI 0), .int (nI px), .int (nI j34), .int v171, .int nz, .int v172, .int (nI cx), .int (nI wx), .int (nI sx), .int (nI (cv.2.2.2.2.2)), .ref (a 5), .ref (a 6), .ref (a 7), .ref (a 8), .ref (a 9), .ref (a 10), .ref (a 11), .ref (a 12), .ref (a 13), .ref (a 14), .ref (a 15), .ref (a 16), .ref (a 17), .int (nI n17), .ref (a 18), .ref (a 19), .ref (a 20), .ref (a 21), .int v173, .int v174, .int v175, .int v176, .int (nI n177), .int (nI n178), .ref (a 22), .ref (a 23), .ref (a 24), .ref (a 25), .ref (a 26), .ref (a 27), .ref (a 28), .ref (a 29), .ref (a 30), .int kf]) := by rw [hw250]; exact set_ne k181 (by decide)
                    have k254 : w249[5]? = some (iA E (a 5) 260 fx) := by rw [hw250]; exact set_ne iv110_1 (by decide)
                    have k255 : w249[8]? = some (iA E (a 8) 16 f8x) := by rw [hw250]; exact set_ne iv110_2 (by decide)
                    have k256 : w249[9]? = some (iA E (a 9) 16 f9x) := by rw [hw250]; exact set_ne iv110_3 (by decide)
                    have k257 : w249[10]? = some (iA E (a 10) 16 f10x) := by rw [hw250]; exact set_ne iv110_4 (by decide)
                    refine x_iinc C (v := (nI (k + 1))) (lv' := [(3, .int (nI (k + 1))), (0, .ref (a 0)), (1, .int (nI j34)), (2, .int 1)]) dX12_law_130 3 rfl (nI_add k 1) (by decide) rfl rfl ?_
                    refine x_goto C (tgt := 110) dX12_law_133 (by decide) ?_
                    refine x_lv (lv1 := [(0, .ref (a 0)), (1, .int (nI j34)), (2, .int 1), (3, .int (nI (k + 1)))]) [1, 2, 3, 0] rfl ?_
                    exact ih110 (k + 1) ((upd cv.1 k (fx k)), cv.2) w249 hW252 (by omega) (show MO a ((upd cv.1 k (fx k)), cv.2) kf _ 0 px j34 cx wx sx n17 nz from ⟨v171, v172, v173, v174, v175, v176, n177, n178, ⟨by omega, by omega, by omega, by omega, by omega, by omega, by omega⟩, ⟨by omega, by omega⟩, k253⟩) k254 k255 k256 k257 iv110_5 (cpy_step iv110_6) (by omega)
              refine x_lv (lv1 := [(0, .ref (a 0)), (1, .int (nI j34)), (2, .int 1), (3, .int 0)]) [1, 2, 3, 0] rfl ?_
              exact loop110 _ 0 (cd.1, cd.2.1, cd.2.2.1, cd.2.2.2.1, cd.2.2.2.2.1, sx) w161 hW164 (Nat.lt_succ_self _) (show MO a (cd.1, cd.2.1, cd.2.2.1, cd.2.2.2.1, cd.2.2.2.2.1, sx) kf _ 0 px j34 cx wx sx n17 nz from ⟨v138, v139, v140, v141, v142, v143, n144, n145, ⟨by omega, by omega, by omega, by omega, by omega, by omega, by omega⟩, ⟨by omega, by omega⟩, k163⟩) k166 k168 k169 k170 rfl (fun j hj => absurd hj (by omega)) (by omega)
            · skip
              have nf258 := nI_nle' (a := j34) (b := px) c149 (by omega) (by omega)
              refine x_aload_n C dX12_law_61 rfl 0 rfl rfl ?_
              refine x_bipush C (v := 59) dX12_law_62 (by decide) rfl ?_
              refine x_vi C (As := [.int 59]) (rest := []) (m_takes59 E l a cd hG kf jn js jq wl46 hWl46 n2 px j34 cx wx sx n17 nz ⟨v138, v139, v140, v141, v142, v143, n144, n145, ⟨by omega, by omega, by omega, by omega, by omega, by omega, by omega⟩, ⟨by omega, by omega⟩, k148⟩ f57 iv46_1) mf_X12_takes w_1391 0 k148 rfl rfl rfl (Nat.le_of_ble_eq_true rfl) ⟨(Nat.le_of_ble_eq_true rfl), (Nat.le_of_ble_eq_true rfl)⟩ ⟨(Nat.le_of_ble_eq_true rfl), (Nat.le_of_ble_eq_true rfl)⟩ dX12_law_64 rfl (fun r260 w261 h259 => ?_)
              obtain ⟨hW262, kq263, zb264, x265⟩ := h259
              have k266 : w261[4]? = some (bA E (a 4) 260 f57) := keeps_at kq263 iv46_1 (by first | decide | omega | (dsimp only; omega))
              have k267 : w261[5]? = some (iA E (a 5) 260 fx) := keeps_at kq263 iv46_2 (by first | decide | omega | (dsimp only; omega))
              have k268 : w261[6]? = some (iA E (a 6) 260 gx) := keeps_at kq263 iv46_3 (by first | decide | omega | (dsimp only; omega))
              have k269 : w261[8]? = some (iA E (a 8) 16 f8x) := keeps_at kq263 iv46_4 (by first | decide | omega | (dsimp only; omega))
              have k270 : w261[9]? = some (iA E (a 9) 16 f9x) := keeps_at kq263 iv46_5 (by first | decide | omega | (dsimp only; omega))
              have k271 : w261[10]? = some (iA E (a 10) 16 f10x) := keeps_at kq263 iv46_6 (by first | decide | omega | (dsimp only; omega))
              rcases x265 with ⟨e272, mo273⟩ | ⟨e274, hp275, mo276⟩
              · refine x_top e272 ?_
                obtain ⟨v277, v278, v279, v280, v281, v282, n283, n284, bo285, bo286, k287⟩ := mo273
                refine x_if_eq C (tgt := 81) dX12_law_67 (by decide) rfl (fun _ => ?_) (fun h => absurd h (by decide))
                refine x_iconst C (v := 0) dX12_law_81 (by decide) rfl ?_
                refine x_istore_n C (lv' := [(2, .int 0), (0, .ref (a 0)), (1, .int (nI j34))]) dX12_law_82 rfl (by decide) rfl rfl ?_
                refine x_goto C (tgt := 46) dX12_law_83 (by decide) ?_
                refine x_iload_n C dX12_law_46 rfl 0 rfl rfl ?_
                refine x_if_eq C (tgt := 86) dX12_law_47 (by decide) rfl (fun _ => ?_) (fun h => absurd h (by decide))
                refine x_aload_n C dX12_law_86 rfl 1 rfl rfl ?_
                refine x_iconst C (v := 0) dX12_law_87 (by decide) rfl ?_
                obtain ⟨w288, hw289⟩ : ∃ w : va_W, w = List.set w261 0 (ob (a 0) 11 [.ref (a 1), .ref (a 2), .ref (a 3), .ref (a 4), .int 0, .int (nI px), .int (nI j34), .int v277, .int nz, .int v278, .int (nI cx), .int (nI wx), .int (nI sx), .int (nI (cd.2.2.2.2.2)), .ref (a 5), .ref (a 6), .ref (a 7), .ref (a 8), .ref (a 9), .ref (a 10), .ref (a 11), .ref (a 12), .ref (a 13), .ref (a 14), .ref (a 15), .ref (a 16), .ref (a 17), .int (nI n17), .ref (a 18), .ref (a 19), .ref (a 20), .ref (a 21), .int v279, .int v280, .int v281, .int v282, .int (nI n283), .int (nI n284), .ref (a 22), .ref (a 23), .ref (a 24), .ref (a 25), .ref (a 26), .ref (a 27), .ref (a 28), .ref (a 29), .ref (a 30), .int kf]) := ⟨_, rfl⟩
                refine x_put C (ci := 11) (k := 4) (ty := .int) 0 k287 rfl in_X12 tyX12 tyX12_ok nmX12 (by decide) w_1122 rfl rfl rfl rfl (Nat.le_of_ble_eq_true rfl) hw289.symm dX12_law_88 rfl ?_
                have hW290 : WX (okM E a cd kf jn js jq) w288 := by rw [hw289]; exact hW262.set (k := 0) rfl ⟨0, px, j34, v277, nz, v278, cx, wx, sx, n17, v279, v280, v281, v282, n283, n284, by omega, by omega, by omega, by omega, by omega, by omega, by omega, by omega, by omega, rfl⟩
                have k291 : w288[4]? = some (bA E (a 4) 260 f57) := by rw [hw289]; exact set_ne k266 (by decide)
                have k292 : w288[5]? = some (iA E (a 5) 260 fx) := by rw [hw289]; exact set_ne k267 (by decide)
                have k293 : w288[6]? = some (iA E (a 6) 260 gx) := by rw [hw289]; exact set_ne k268 (by decide)
                have k294 : w288[8]? = some (iA E (a 8) 16 f8x) := by rw [hw289]; exact set_ne k269 (by decide)
                have k295 : w288[9]? = some (iA E (a 9) 16 f9x) := by rw [hw289]; exact set_ne k270 (by decide)
                have k296 : w288[10]? = some (iA E (a 10) 16 f10x) := by rw [hw289]; exact set_ne k271 (by decide)
                have k297 : w288[0]? = some (ob (a 0) 11 [.ref (a 1), .ref (a 2), .ref (a 3), .ref (a 4), .int 0, .int (nI px), .int (nI j34), .int v277, .int nz, .int v278, .int (nI cx), .int (nI wx), .int (nI sx), .int (nI (cd.2.2.2.2.2)), .ref (a 5), .ref (a 6), .ref (a 7), .ref (a 8), .ref (a 9), .ref (a 10), .ref (a 11), .ref (a 12), .ref (a 13), .ref (a 14), .ref (a 15), .ref (a 16), .ref (a 17), .int (nI n17), .ref (a 18), .ref (a 19), .ref (a 20), .ref (a 21), .int v279, .int v280, .int v281, .int v282, .int (nI n283), .int (nI n284), .ref (a 22), .ref (a 23), .ref (a 24), .ref (a 25), .ref (a 26), .ref (a 27), .ref (a 28), .ref (a 29), .ref (a 30), .int kf]) := by rw [hw289]; exact set_eq k287
                refine x_iload_n C dX12_law_91 rfl 0 rfl rfl ?_
                refine x_if_ne C (tgt := 100) dX12_law_92 (by decide) rfl (fun h => absurd h (by decide)) (fun _ => ?_)
                refine x_aload_n C dX12_law_95 rfl 1 rfl rfl ?_
                refine x_get C (ci := 11) (k := 7) 0 k297 rfl in_X12 (by decide) w_1125 rfl dX12_law_96 rfl ?_
                exact x_zret C hr hlk rfl dX12_law_99 ⟨cd, hG, hW290⟩
              · refine x_top e274 ?_
                obtain ⟨v298, v299, v300, v301, v302, v303, n304, n305, bo306, bo307, k308⟩ := mo276
                refine x_if_eq C (tgt := 81) dX12_law_67 (by decide) rfl (fun h => absurd h (by decide)) (fun _ => ?_)
                refine x_aload_n C dX12_law_70 rfl 0 rfl rfl ?_
                refine x_vi C (As := []) (rest := []) (m_readsClause E l a cd hG kf jn js jq w261 hW262 n2 (px + 1) j34 cx wx sx n17 nz ⟨v298, v299, v300, v301, v302, v303, n304, n305, ⟨by omega, by omega, by omega, by omega, by omega, by omega, by omega⟩, ⟨by omega, by omega⟩, k308⟩ f57 k266 (by omega) fx k267 gx k268 f8x k269 f9x k270 f10x k271 (by omega) iv46_7) mf_X12_readsClause w_1313 0 k308 rfl rfl rfl (Nat.le_of_ble_eq_true rfl) ⟨(Nat.le_of_ble_eq_true rfl), (Nat.le_of_ble_eq_true rfl)⟩ ⟨(Nat.le_of_ble_eq_true rfl), (Nat.le_of_ble_eq_true rfl)⟩ dX12_law_71 rfl (fun r310 w311 h309 => ?_)
                obtain ⟨hW312, kq313, zb314, x315⟩ := h309
                have k316 : w311[4]? = some (bA E (a 4) 260 f57) := keeps_at kq313 k266 (by first | decide | omega | (dsimp only; omega))
                rcases x315 with ⟨e317, rf318⟩ | ⟨e319, pl320, cm321, wt322, fs323, fw324, g8325, g9326, g10327, hq328, hq329, hq330, hq331, hq332, hq333, hq334, hq335⟩
                · refine x_top e317 ?_
                  obtain ⟨pl336, cm337, wt338, fs339, fw340, rs341⟩ := rf318
                  obtain ⟨⟨nu342, mo343⟩, k344, k345⟩ := rs341
                  obtain ⟨v346, v347, v348, v349, v350, v351, n352, n353, bo354, bo355, k356⟩ := mo343
                  refine x_if_eq C (tgt := 81) dX12_law_74 (by decide) rfl (fun _ => ?_) (fun h => absurd h (by decide))
                  refine x_iconst C (v := 0) dX12_law_81 (by decide) rfl ?_
                  refine x_istore_n C (lv' := [(2, .int 0), (0, .ref (a 0)), (1, .int (nI j34))]) dX12_law_82 rfl (by decide) rfl rfl ?_
                  refine x_goto C (tgt := 46) dX12_law_83 (by decide) ?_
                  refine x_iload_n C dX12_law_46 rfl 0 rfl rfl ?_
                  refine x_if_eq C (tgt := 86) dX12_law_47 (by decide) rfl (fun _ => ?_) (fun h => absurd h (by decide))
                  refine x_aload_n C dX12_law_86 rfl 1 rfl rfl ?_
                  refine x_iconst C (v := 0) dX12_law_87 (by decide) rfl ?_
                  obtain ⟨w357, hw358⟩ : ∃ w : va_W, w = List.set w311 0 (ob (a 0) 11 [.ref (a 1), .ref (a 2), .ref (a 3), .ref (a 4), .int 0, .int (nI pl336), .int (nI j34), .int v346, .int nu342, .int v347, .int (nI cm337), .int (nI wt338), .int (nI sx), .int (nI (cd.2.2.2.2.2)), .ref (a 5), .ref (a 6), .ref (a 7), .ref (a 8), .ref (a 9), .ref (a 10), .ref (a 11), .ref (a 12), .ref (a 13), .ref (a 14), .ref (a 15), .ref (a 16), .ref (a 17), .int (nI n17), .ref (a 18), .ref (a 19), .ref (a 20), .ref (a 21), .int v348, .int v349, .int v350, .int v351, .int (nI n352), .int (nI n353), .ref (a 22), .ref (a 23), .ref (a 24), .ref (a 25), .ref (a 26), .ref (a 27), .ref (a 28), .ref (a 29), .ref (a 30), .int kf]) := ⟨_, rfl⟩
                  refine x_put C (ci := 11) (k := 4) (ty := .int) 0 k356 rfl in_X12 tyX12 tyX12_ok nmX12 (by decide) w_1122 rfl rfl rfl rfl (Nat.le_of_ble_eq_true rfl) hw358.symm dX12_law_88 rfl ?_
                  have hW359 : WX (okM E a cd kf jn js jq) w357 := by rw [hw358]; exact hW312.set (k := 0) rfl ⟨0, pl336, j34, v346, nu342, v347, cm337, wt338, sx, n17, v348, v349, v350, v351, n352, n353, by omega, by omega, by omega, by omega, by omega, by omega, by omega, by omega, by omega, rfl⟩
                  have k360 : w357[4]? = some (bA E (a 4) 260 f57) := by rw [hw358]; exact set_ne k316 (by decide)
                  have k361 : w357[0]? = some (ob (a 0) 11 [.ref (a 1), .ref (a 2), .ref (a 3), .ref (a 4), .int 0, .int (nI pl336), .int (nI j34), .int v346, .int nu342, .int v347, .int (nI cm337), .int (nI wt338), .int (nI sx), .int (nI (cd.2.2.2.2.2)), .ref (a 5), .ref (a 6), .ref (a 7), .ref (a 8), .ref (a 9), .ref (a 10), .ref (a 11), .ref (a 12), .ref (a 13), .ref (a 14), .ref (a 15), .ref (a 16), .ref (a 17), .int (nI n17), .ref (a 18), .ref (a 19), .ref (a 20), .ref (a 21), .int v348, .int v349, .int v350, .int v351, .int (nI n352), .int (nI n353), .ref (a 22), .ref (a 23), .ref (a 24), .ref (a 25), .ref (a 26), .ref (a 27), .ref (a 28), .ref (a 29), .ref (a 30), .int kf]) := by rw [hw358]; exact set_eq k356
                  have k362 : w357[5]? = some (iA E (a 5) 260 fs339) := by rw [hw358]; exact set_ne k344 (by decide)
                  have k363 : w357[6]? = some (iA E (a 6) 260 fw340) := by rw [hw358]; exact set_ne k345 (by decide)
                  refine x_iload_n C dX12_law_91 rfl 0 rfl rfl ?_
                  refine x_if_ne C (tgt := 100) dX12_law_92 (by decide) rfl (fun h => absurd h (by decide)) (fun _ => ?_)
                  refine x_aload_n C dX12_law_95 rfl 1 rfl rfl ?_
                  refine x_get C (ci := 11) (k := 7) 0 k361 rfl in_X12 (by decide) w_1125 rfl dX12_law_96 rfl ?_
                  exact x_zret C hr hlk rfl dX12_law_99 ⟨cd, hG, hW359⟩
                · refine x_top e319 ?_
                  obtain ⟨⟨nu364, mo365⟩, k366, k367⟩ := hq330
                  obtain ⟨v368, v369, v370, v371, v372, v373, n374, n375, bo376, bo377, k378⟩ := mo365
                  refine x_if_eq C (tgt := 81) dX12_law_74 (by decide) rfl (fun h => absurd h (by decide)) (fun _ => ?_)
                  refine x_iconst C (v := 1) dX12_law_77 (by decide) rfl ?_
                  refine x_goto C (tgt := 82) dX12_law_78 (by decide) ?_
                  refine x_istore_n C (lv' := [(2, .int 1), (0, .ref (a 0)), (1, .int (nI j34))]) dX12_law_82 rfl (by decide) rfl rfl ?_
                  refine x_goto C (tgt := 46) dX12_law_83 (by decide) ?_
                  refine x_lv (lv1 := [(0, .ref (a 0)), (1, .int (nI j34)), (2, .int 1)]) [1, 2, 0] rfl ?_
                  exact ih46 pl320 cm321 wt322 (sx + 1) nu364 fs323 fw324 g8325 g9326 g10327 w311 hW312 (by omega) ⟨v368, v369, v370, v371, v372, v373, n374, n375, ⟨by omega, by omega, by omega, by omega, by omega, by omega, by omega⟩, ⟨by omega, by omega⟩, k378⟩ k316 k366 k367 hq331 hq332 hq333 hq335 (by omega)
        refine x_lv (lv1 := [(0, .ref (a 0)), (1, .int (nI j34)), (2, .int 1)]) [1, 2, 0] rfl ?_
        exact loop46 _ pl79 cm80 wt81 (0 + 1) nu123 fs82 fw83 g884 g985 g1086 w70 hW71 (Nat.lt_succ_self _) ⟨v127, v128, v129, v130, v131, v132, n133, n134, ⟨by omega, by omega, by omega, by omega, by omega, by omega, by omega⟩, ⟨by omega, by omega⟩, k137⟩ k75 k125 k126 hq90 hq91 hq92 hq94 (by omega)
    · skip
      have nf379 := nI_nle' (a := j34) (b := n2) c38 (by omega) (by omega)
      refine x_iconst C (v := (-1)) dX12_law_19 (by decide) rfl ?_
      exact x_zret C hr hlk rfl dX12_law_20 ⟨cd, hG, hW⟩
