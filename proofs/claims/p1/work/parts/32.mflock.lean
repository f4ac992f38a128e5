theorem ml_row {f : Nat → Int32} {d h : Nat} {v : Int32} (hf : ∀ j, 1 ≤ j → j ≤ 20 → f (21 * d + j) = nI (fh d j)) (_ : 1 ≤ h) : ∀ j, 1 ≤ j → j ≤ 20 → upd f (21 * (d + 1) + h) v (21 * d + j) = nI (fh d j) := by
  intro j h1 h2
  rw [pk_un (by omega)]
  exact hf j h1 h2
theorem ml_step {f : Nat → Int32} {d h : Nat} (hf : ∀ j, 1 ≤ j → j < h → f (21 * (d + 1) + j) = nI (fh (d + 1) j)) (_ : 1 ≤ h) : ∀ j, 1 ≤ j → j < h + 1 → upd f (21 * (d + 1) + h) (nI (fh (d + 1) h)) (21 * (d + 1) + j) = nI (fh (d + 1) j) := by
  intro j h1 h2
  by_cases e : j = h
  · subst e; exact pk_us
  · rw [pk_un (by omega)]
    exact hf j h1 (by omega)
theorem dX12_min_0 : decode cX12_min 0 = .ok (.iload_n 0, 1) := by decide +kernel
theorem dX12_min_1 : decode cX12_min 1 = .ok (.iload_n 1, 1) := by decide +kernel
theorem dX12_min_2 : decode cX12_min 2 = .ok (.if_icmp .ge 7, 3) := by decide +kernel
theorem dX12_min_5 : decode cX12_min 5 = .ok (.iload_n 0, 1) := by decide +kernel
theorem dX12_min_6 : decode cX12_min 6 = .ok (.goto 4, 3) := by decide +kernel
theorem dX12_min_9 : decode cX12_min 9 = .ok (.iload_n 1, 1) := by decide +kernel
theorem dX12_min_10 : decode cX12_min 10 = .ok (.ireturn, 1) := by decide +kernel
set_option maxRecDepth 20000 in
set_option maxHeartbeats 4000000 in
theorem e_min (E : xE) (l : Launch) (ws : va_W) (a b : Nat) (ha : a < 2 ^ 31) (hb : b < 2 ^ 31) : xI E l yX12_min cX12_min 2 (some .int) 0 [.int (nI a), .int (nI b)] ws (fun r w => r = nI (if a < b then a else b) ∧ w = ws) := by
  refine xI_start (lv := [(0, .int (nI a)), (1, .int (nI b))]) RX12 (by decide) rfl (Nat.le_of_ble_eq_true rfl) rfl (fun p e s m below meth c A C hr hlk => ?_)
  refine x_iload_n C dX12_min_0 rfl 0 rfl rfl ?_
  refine x_iload_n C dX12_min_1 rfl 1 rfl rfl ?_
  refine x_icmp_ge C (tgt := 9) dX12_min_2 (by decide) rfl (fun c1 => ?_) (fun c1 => ?_)
  · skip
    refine x_iload_n C dX12_min_9 rfl 1 rfl rfl ?_
    exact x_zret C hr hlk rfl dX12_min_10 ⟨by rw [if_neg (Nat.not_lt.mpr (nI_le' c1 hb ha))], rfl⟩
  · skip
    refine x_iload_n C dX12_min_5 rfl 0 rfl rfl ?_
    refine x_goto C (tgt := 10) dX12_min_6 (by decide) ?_
    exact x_zret C hr hlk rfl dX12_min_10 ⟨by rw [if_pos (nI_nle' c1 hb ha)], rfl⟩
theorem dX12_hoursBy_0 : decode cX12_hoursBy 0 = .ok (.iload_n 2, 1) := by decide +kernel
theorem dX12_hoursBy_1 : decode cX12_hoursBy 1 = .ok (.iload_n 3, 1) := by decide +kernel
theorem dX12_hoursBy_2 : decode cX12_hoursBy 2 = .ok (.isub, 1) := by decide +kernel
theorem dX12_hoursBy_3 : decode cX12_hoursBy 3 = .ok (.aload_n 0, 1) := by decide +kernel
theorem dX12_hoursBy_4 : decode cX12_hoursBy 4 = .ok (.getfield 95, 3) := by decide +kernel
theorem dX12_hoursBy_7 : decode cX12_hoursBy 7 = .ok (.bipush 21, 2) := by decide +kernel
theorem dX12_hoursBy_9 : decode cX12_hoursBy 9 = .ok (.iload_n 1, 1) := by decide +kernel
theorem dX12_hoursBy_10 : decode cX12_hoursBy 10 = .ok (.iconst 1, 1) := by decide +kernel
theorem dX12_hoursBy_11 : decode cX12_hoursBy 11 = .ok (.isub, 1) := by decide +kernel
theorem dX12_hoursBy_12 : decode cX12_hoursBy 12 = .ok (.imul, 1) := by decide +kernel
theorem dX12_hoursBy_13 : decode cX12_hoursBy 13 = .ok (.iload_n 2, 1) := by decide +kernel
theorem dX12_hoursBy_14 : decode cX12_hoursBy 14 = .ok (.iadd, 1) := by decide +kernel
theorem dX12_hoursBy_15 : decode cX12_hoursBy 15 = .ok (.iload_n 3, 1) := by decide +kernel
theorem dX12_hoursBy_16 : decode cX12_hoursBy 16 = .ok (.iadd, 1) := by decide +kernel
theorem dX12_hoursBy_17 : decode cX12_hoursBy 17 = .ok (.iaload, 1) := by decide +kernel
theorem dX12_hoursBy_18 : decode cX12_hoursBy 18 = .ok (.iadd, 1) := by decide +kernel
theorem dX12_hoursBy_19 : decode cX12_hoursBy 19 = .ok (.ireturn, 1) := by decide +kernel
set_option maxRecDepth 20000 in
set_option maxHeartbeats 4000000 in
theorem e_hoursBy (E : xE) (l : Launch) (ws : va_W) {mm m0 m1 m2 m3 m14 m15 m16 m17 m18 m19 m20 m21 m22 m23 m24 m25 m26 m28 m29 m30 m31 m38 m39 m40 m41 m42 m43 m44 m45 m46 : Nat} {f : Nat → Int32} (p_0 : Nat) (k_0 : ws[0]? = some (ob mm 11 [.ref m0, .ref m1, .ref m2, .ref m3, .int 0, .int 0, .int 0, .int 0, .int 0, .int 0, .int 0, .int 0, .int 0, .int 0, .ref m14, .ref m15, .ref m16, .ref m17, .ref m18, .ref m19, .ref m20, .ref m21, .ref m22, .ref m23, .ref m24, .ref m25, .ref m26, .int 0, .ref m28, .ref m29, .ref m30, .ref m31, .int 0, .int 0, .int 0, .int 0, .int 0, .int 0, .ref m38, .ref m39, .ref m40, .ref m41, .ref m42, .ref m43, .ref m44, .ref m45, .ref m46, .int 0])) (p_1 : Nat) (k_1 : ws[5]? = some (iA E m45 273 f)) (d h x v : Nat) (hd : d < 12) (hx : x ≤ h) (hh : h + x ≤ 20) (hv : f (21 * d + h + x) = nI v) : xI E l yX12_hoursBy cX12_hoursBy 4 (some .int) 0 [.ref mm, .int (nI (d + 1)), .int (nI h), .int (nI x)] ws (fun r w => r = nI (h - x + v) ∧ w = ws) := by
  refine xI_start (lv := [(0, .ref mm), (1, .int (nI (d + 1))), (2, .int (nI h)), (3, .int (nI x))]) RX12 (by decide) rfl (Nat.le_of_ble_eq_true rfl) rfl (fun p e s m below meth c A C hr hlk => ?_)
  refine x_iload_n C dX12_hoursBy_0 rfl 2 rfl rfl ?_
  refine x_iload_n C dX12_hoursBy_1 rfl 3 rfl rfl ?_
  refine x_isub C (v := ((nI h) - (nI x))) dX12_hoursBy_2 rfl rfl ?_
  refine x_top (v := (nI (h - x))) (pk_sub hx) ?_
  refine x_aload_n C dX12_hoursBy_3 rfl 0 rfl rfl ?_
  refine x_get C (ci := 11) (k := 45) 0 k_0 rfl in_X12 (by decide) w_1163 rfl dX12_hoursBy_4 rfl ?_
  refine x_bipush C (v := 21) dX12_hoursBy_7 (by decide) rfl ?_
  refine x_iload_n C dX12_hoursBy_9 rfl 1 rfl rfl ?_
  refine x_iconst C (v := 1) dX12_hoursBy_10 (by decide) rfl ?_
  refine x_isub C (v := ((nI (d + 1)) - (1 : Int32))) dX12_hoursBy_11 rfl rfl ?_
  refine x_top (v := (nI d)) (nI_pred d) ?_
  refine x_imul C (v := ((21 : Int32) * (nI d))) dX12_hoursBy_12 rfl rfl ?_
  refine x_top (v := (nI (21 * d))) (pk_mul 21 d) ?_
  refine x_iload_n C dX12_hoursBy_13 rfl 2 rfl rfl ?_
  refine x_iadd C (v := ((nI (21 * d)) + (nI h))) dX12_hoursBy_14 rfl rfl ?_
  refine x_top (v := (nI (21 * d + h))) (nI_add _ _) ?_
  refine x_iload_n C dX12_hoursBy_15 rfl 3 rfl rfl ?_
  refine x_iadd C (v := ((nI (21 * d + h)) + (nI x))) dX12_hoursBy_16 rfl rfl ?_
  refine x_top (v := (nI (21 * d + h + x))) (nI_add _ _) ?_
  refine x_iald C (v := nI v) 5 k_1 (vp_in_nI (by omega) (by decide)) (by rw [nI_clamp (by omega)]; exact hv) dX12_hoursBy_17 rfl ?_
  refine x_iadd C (v := ((nI (h - x)) + (nI v))) dX12_hoursBy_18 rfl rfl ?_
  refine x_top (v := (nI (h - x + v))) (nI_add _ _) ?_
  exact x_zret C hr hlk rfl dX12_hoursBy_19 ⟨rfl, rfl⟩
theorem dX12_flock_0 : decode cX12_flock 0 = .ok (.iload_n 1, 1) := by decide +kernel
theorem dX12_flock_1 : decode cX12_flock 1 = .ok (.iconst 1, 1) := by decide +kernel
theorem dX12_flock_2 : decode cX12_flock 2 = .ok (.bipush 20, 2) := by decide +kernel
theorem dX12_flock_4 : decode cX12_flock 4 = .ok (.invokestatic 109, 3) := by decide +kernel
theorem dX12_flock_7 : decode cX12_flock 7 = .ok (.ifCond .eq 22, 3) := by decide +kernel
theorem dX12_flock_10 : decode cX12_flock 10 = .ok (.iload_n 2, 1) := by decide +kernel
theorem dX12_flock_11 : decode cX12_flock 11 = .ok (.iconst 1, 1) := by decide +kernel
theorem dX12_flock_12 : decode cX12_flock 12 = .ok (.bipush 12, 2) := by decide +kernel
theorem dX12_flock_14 : decode cX12_flock 14 = .ok (.invokestatic 109, 3) := by decide +kernel
theorem dX12_flock_17 : decode cX12_flock 17 = .ok (.ifCond .eq 12, 3) := by decide +kernel
theorem dX12_flock_20 : decode cX12_flock 20 = .ok (.iload_n 3, 1) := by decide +kernel
theorem dX12_flock_21 : decode cX12_flock 21 = .ok (.iconst 0, 1) := by decide +kernel
theorem dX12_flock_22 : decode cX12_flock 22 = .ok (.iconst 1, 1) := by decide +kernel
theorem dX12_flock_23 : decode cX12_flock 23 = .ok (.invokestatic 109, 3) := by decide +kernel
theorem dX12_flock_26 : decode cX12_flock 26 = .ok (.ifCond .ne 5, 3) := by decide +kernel
theorem dX12_flock_29 : decode cX12_flock 29 = .ok (.iconst (-1), 1) := by decide +kernel
theorem dX12_flock_30 : decode cX12_flock 30 = .ok (.ireturn, 1) := by decide +kernel
theorem dX12_flock_31 : decode cX12_flock 31 = .ok (.iconst 0, 1) := by decide +kernel
theorem dX12_flock_32 : decode cX12_flock 32 = .ok (.istore 4, 2) := by decide +kernel
theorem dX12_flock_34 : decode cX12_flock 34 = .ok (.iconst 0, 1) := by decide +kernel
theorem dX12_flock_35 : decode cX12_flock 35 = .ok (.istore 5, 2) := by decide +kernel
theorem dX12_flock_37 : decode cX12_flock 37 = .ok (.iload 5, 2) := by decide +kernel
theorem dX12_flock_39 : decode cX12_flock 39 = .ok (.bipush 20, 2) := by decide +kernel
theorem dX12_flock_41 : decode cX12_flock 41 = .ok (.if_icmp .gt 17, 3) := by decide +kernel
theorem dX12_flock_44 : decode cX12_flock 44 = .ok (.aload_n 0, 1) := by decide +kernel
theorem dX12_flock_45 : decode cX12_flock 45 = .ok (.getfield 95, 3) := by decide +kernel
theorem dX12_flock_48 : decode cX12_flock 48 = .ok (.iload 5, 2) := by decide +kernel
theorem dX12_flock_50 : decode cX12_flock 50 = .ok (.iconst 0, 1) := by decide +kernel
theorem dX12_flock_51 : decode cX12_flock 51 = .ok (.iastore, 1) := by decide +kernel
theorem dX12_flock_52 : decode cX12_flock 52 = .ok (.iinc 5 1, 3) := by decide +kernel
theorem dX12_flock_55 : decode cX12_flock 55 = .ok (.goto (-18), 3) := by decide +kernel
theorem dX12_flock_58 : decode cX12_flock 58 = .ok (.iconst 1, 1) := by decide +kernel
theorem dX12_flock_59 : decode cX12_flock 59 = .ok (.istore 5, 2) := by decide +kernel
theorem dX12_flock_61 : decode cX12_flock 61 = .ok (.iload 5, 2) := by decide +kernel
theorem dX12_flock_63 : decode cX12_flock 63 = .ok (.iload_n 2, 1) := by decide +kernel
theorem dX12_flock_64 : decode cX12_flock 64 = .ok (.if_icmp .gt 112, 3) := by decide +kernel
theorem dX12_flock_67 : decode cX12_flock 67 = .ok (.iconst 1, 1) := by decide +kernel
theorem dX12_flock_68 : decode cX12_flock 68 = .ok (.istore 6, 2) := by decide +kernel
theorem dX12_flock_70 : decode cX12_flock 70 = .ok (.iload 6, 2) := by decide +kernel
theorem dX12_flock_72 : decode cX12_flock 72 = .ok (.bipush 20, 2) := by decide +kernel
theorem dX12_flock_74 : decode cX12_flock 74 = .ok (.if_icmp .gt 96, 3) := by decide +kernel
theorem dX12_flock_77 : decode cX12_flock 77 = .ok (.iconst 0, 1) := by decide +kernel
theorem dX12_flock_78 : decode cX12_flock 78 = .ok (.istore 7, 2) := by decide +kernel
theorem dX12_flock_80 : decode cX12_flock 80 = .ok (.iconst 1, 1) := by decide +kernel
theorem dX12_flock_81 : decode cX12_flock 81 = .ok (.istore 8, 2) := by decide +kernel
theorem dX12_flock_83 : decode cX12_flock 83 = .ok (.iload 8, 2) := by decide +kernel
theorem dX12_flock_85 : decode cX12_flock 85 = .ok (.iload 6, 2) := by decide +kernel
theorem dX12_flock_87 : decode cX12_flock 87 = .ok (.bipush 20, 2) := by decide +kernel
theorem dX12_flock_89 : decode cX12_flock 89 = .ok (.iload 6, 2) := by decide +kernel
theorem dX12_flock_91 : decode cX12_flock 91 = .ok (.isub, 1) := by decide +kernel
theorem dX12_flock_92 : decode cX12_flock 92 = .ok (.invokestatic 272, 3) := by decide +kernel
theorem dX12_flock_95 : decode cX12_flock 95 = .ok (.if_icmp .gt 36, 3) := by decide +kernel
theorem dX12_flock_98 : decode cX12_flock 98 = .ok (.aload_n 0, 1) := by decide +kernel
theorem dX12_flock_99 : decode cX12_flock 99 = .ok (.iload 5, 2) := by decide +kernel
theorem dX12_flock_101 : decode cX12_flock 101 = .ok (.iload 6, 2) := by decide +kernel
theorem dX12_flock_103 : decode cX12_flock 103 = .ok (.iload 8, 2) := by decide +kernel
theorem dX12_flock_105 : decode cX12_flock 105 = .ok (.invokevirtual 374, 3) := by decide +kernel
theorem dX12_flock_108 : decode cX12_flock 108 = .ok (.aload_n 0, 1) := by decide +kernel
theorem dX12_flock_109 : decode cX12_flock 109 = .ok (.iload 5, 2) := by decide +kernel
theorem dX12_flock_111 : decode cX12_flock 111 = .ok (.iload 6, 2) := by decide +kernel
theorem dX12_flock_113 : decode cX12_flock 113 = .ok (.iload 7, 2) := by decide +kernel
theorem dX12_flock_115 : decode cX12_flock 115 = .ok (.invokevirtual 374, 3) := by decide +kernel
theorem dX12_flock_118 : decode cX12_flock 118 = .ok (.if_icmp .le 7, 3) := by decide +kernel
theorem dX12_flock_121 : decode cX12_flock 121 = .ok (.iload 8, 2) := by decide +kernel
theorem dX12_flock_123 : decode cX12_flock 123 = .ok (.istore 7, 2) := by decide +kernel
theorem dX12_flock_125 : decode cX12_flock 125 = .ok (.iinc 8 1, 3) := by decide +kernel
theorem dX12_flock_128 : decode cX12_flock 128 = .ok (.goto (-45), 3) := by decide +kernel
theorem dX12_flock_131 : decode cX12_flock 131 = .ok (.aload_n 0, 1) := by decide +kernel
theorem dX12_flock_132 : decode cX12_flock 132 = .ok (.getfield 95, 3) := by decide +kernel
theorem dX12_flock_135 : decode cX12_flock 135 = .ok (.bipush 21, 2) := by decide +kernel
theorem dX12_flock_137 : decode cX12_flock 137 = .ok (.iload 5, 2) := by decide +kernel
theorem dX12_flock_139 : decode cX12_flock 139 = .ok (.imul, 1) := by decide +kernel
theorem dX12_flock_140 : decode cX12_flock 140 = .ok (.iload 6, 2) := by decide +kernel
theorem dX12_flock_142 : decode cX12_flock 142 = .ok (.iadd, 1) := by decide +kernel
theorem dX12_flock_143 : decode cX12_flock 143 = .ok (.aload_n 0, 1) := by decide +kernel
theorem dX12_flock_144 : decode cX12_flock 144 = .ok (.iload 5, 2) := by decide +kernel
theorem dX12_flock_146 : decode cX12_flock 146 = .ok (.iload 6, 2) := by decide +kernel
theorem dX12_flock_148 : decode cX12_flock 148 = .ok (.iload 7, 2) := by decide +kernel
theorem dX12_flock_150 : decode cX12_flock 150 = .ok (.invokevirtual 374, 3) := by decide +kernel
theorem dX12_flock_153 : decode cX12_flock 153 = .ok (.iastore, 1) := by decide +kernel
theorem dX12_flock_154 : decode cX12_flock 154 = .ok (.iload 6, 2) := by decide +kernel
theorem dX12_flock_156 : decode cX12_flock 156 = .ok (.iload_n 1, 1) := by decide +kernel
theorem dX12_flock_157 : decode cX12_flock 157 = .ok (.if_icmp .ne 7, 3) := by decide +kernel
theorem dX12_flock_160 : decode cX12_flock 160 = .ok (.iload 7, 2) := by decide +kernel
theorem dX12_flock_162 : decode cX12_flock 162 = .ok (.istore 4, 2) := by decide +kernel
theorem dX12_flock_164 : decode cX12_flock 164 = .ok (.iinc 6 1, 3) := by decide +kernel
theorem dX12_flock_167 : decode cX12_flock 167 = .ok (.goto (-97), 3) := by decide +kernel
theorem dX12_flock_170 : decode cX12_flock 170 = .ok (.iinc 5 1, 3) := by decide +kernel
theorem dX12_flock_173 : decode cX12_flock 173 = .ok (.goto (-112), 3) := by decide +kernel
theorem dX12_flock_176 : decode cX12_flock 176 = .ok (.iload_n 3, 1) := by decide +kernel
theorem dX12_flock_177 : decode cX12_flock 177 = .ok (.ifCond .ne 17, 3) := by decide +kernel
theorem dX12_flock_180 : decode cX12_flock 180 = .ok (.aload_n 0, 1) := by decide +kernel
theorem dX12_flock_181 : decode cX12_flock 181 = .ok (.getfield 95, 3) := by decide +kernel
theorem dX12_flock_184 : decode cX12_flock 184 = .ok (.bipush 21, 2) := by decide +kernel
theorem dX12_flock_186 : decode cX12_flock 186 = .ok (.iload_n 2, 1) := by decide +kernel
theorem dX12_flock_187 : decode cX12_flock 187 = .ok (.imul, 1) := by decide +kernel
theorem dX12_flock_188 : decode cX12_flock 188 = .ok (.iload_n 1, 1) := by decide +kernel
theorem dX12_flock_189 : decode cX12_flock 189 = .ok (.iadd, 1) := by decide +kernel
theorem dX12_flock_190 : decode cX12_flock 190 = .ok (.iaload, 1) := by decide +kernel
theorem dX12_flock_191 : decode cX12_flock 191 = .ok (.goto 5, 3) := by decide +kernel
theorem dX12_flock_194 : decode cX12_flock 194 = .ok (.iload 4, 2) := by decide +kernel
theorem dX12_flock_196 : decode cX12_flock 196 = .ok (.ireturn, 1) := by decide +kernel
set_option maxRecDepth 20000 in
set_option maxHeartbeats 4000000 in
theorem e_flock (E : xE) (l : Launch) (ws : va_W) {mm m0 m1 m2 m3 m14 m15 m16 m17 m18 m19 m20 m21 m22 m23 m24 m25 m26 m28 m29 m30 m31 m38 m39 m40 m41 m42 m43 m44 m45 m46 : Nat} (p_0 : Nat) (k_0 : ws[0]? = some (ob mm 11 [.ref m0, .ref m1, .ref m2, .ref m3, .int 0, .int 0, .int 0, .int 0, .int 0, .int 0, .int 0, .int 0, .int 0, .int 0, .ref m14, .ref m15, .ref m16, .ref m17, .ref m18, .ref m19, .ref m20, .ref m21, .ref m22, .ref m23, .ref m24, .ref m25, .ref m26, .int 0, .ref m28, .ref m29, .ref m30, .ref m31, .int 0, .int 0, .int 0, .int 0, .int 0, .int 0, .ref m38, .ref m39, .ref m40, .ref m41, .ref m42, .ref m43, .ref m44, .ref m45, .ref m46, .int 0])) (p_1 : Nat) (k_1 : ws[5]? = some (iA E m45 273 (fun _ => 0))) (hens n wh : Int32) : xI E l yX12_flock cX12_flock 9 (some .int) 2 [.ref mm, .int hens, .int n, .int wh] ws (fun r w => r = flk hens n wh) := by
  refine xI_start (lv := [(0, .ref mm), (1, .int hens), (2, .int n), (3, .int wh)]) RX12 (by decide) rfl (Nat.le_of_ble_eq_true rfl) rfl (fun p e s m below meth c A C hr hlk => ?_)
  refine x_iload_n C dX12_flock_0 rfl 1 rfl rfl ?_
  refine x_iconst C (v := 1) dX12_flock_1 (by decide) rfl ?_
  refine x_bipush C (v := 20) dX12_flock_2 (by decide) rfl ?_
  refine x_si C (As := [.int hens, .int 1, .int 20]) (rest := []) (e_in E l ws hens 1 20) mf_X12_in w_1267 rfl rfl (Nat.le_of_ble_eq_true rfl) ⟨(Nat.le_of_ble_eq_true rfl), (Nat.le_of_ble_eq_true rfl)⟩ ⟨(Nat.le_of_ble_eq_true rfl), (Nat.le_of_ble_eq_true rfl)⟩ dX12_flock_4 rfl (fun r2 w3 h1 => ?_)
  obtain ⟨e4, g5⟩ := h1
  refine x_top e4 ?_
  refine x_ws g5 ?_
  refine x_if_eq C (tgt := 29) dX12_flock_7 (by decide) rfl (fun c6 => ?_) (fun c6 => ?_)
  · skip
    have b7 := bI_e0 c6
    refine x_iconst C (v := (-1)) dX12_flock_29 (by decide) rfl ?_
    exact x_zret C hr hlk rfl dX12_flock_30 (by rw [flk, if_neg (fun q => by simp [b7] at q)])
  · skip
    have b8 := bI_n0 c6
    refine x_iload_n C dX12_flock_10 rfl 2 rfl rfl ?_
    refine x_iconst C (v := 1) dX12_flock_11 (by decide) rfl ?_
    refine x_bipush C (v := 12) dX12_flock_12 (by decide) rfl ?_
    refine x_si C (As := [.int n, .int 1, .int 12]) (rest := []) (e_in E l ws n 1 12) mf_X12_in w_1267 rfl rfl (Nat.le_of_ble_eq_true rfl) ⟨(Nat.le_of_ble_eq_true rfl), (Nat.le_of_ble_eq_true rfl)⟩ ⟨(Nat.le_of_ble_eq_true rfl), (Nat.le_of_ble_eq_true rfl)⟩ dX12_flock_14 rfl (fun r10 w11 h9 => ?_)
    obtain ⟨e12, g13⟩ := h9
    refine x_top e12 ?_
    refine x_ws g13 ?_
    refine x_if_eq C (tgt := 29) dX12_flock_17 (by decide) rfl (fun c14 => ?_) (fun c14 => ?_)
    · skip
      have b15 := bI_e0 c14
      refine x_iconst C (v := (-1)) dX12_flock_29 (by decide) rfl ?_
      exact x_zret C hr hlk rfl dX12_flock_30 (by rw [flk, if_neg (fun q => by simp [b8, b15] at q)])
    · skip
      have b16 := bI_n0 c14
      refine x_iload_n C dX12_flock_20 rfl 3 rfl rfl ?_
      refine x_iconst C (v := 0) dX12_flock_21 (by decide) rfl ?_
      refine x_iconst C (v := 1) dX12_flock_22 (by decide) rfl ?_
      refine x_si C (As := [.int wh, .int 0, .int 1]) (rest := []) (e_in E l ws wh 0 1) mf_X12_in w_1267 rfl rfl (Nat.le_of_ble_eq_true rfl) ⟨(Nat.le_of_ble_eq_true rfl), (Nat.le_of_ble_eq_true rfl)⟩ ⟨(Nat.le_of_ble_eq_true rfl), (Nat.le_of_ble_eq_true rfl)⟩ dX12_flock_23 rfl (fun r18 w19 h17 => ?_)
      obtain ⟨e20, g21⟩ := h17
      refine x_top e20 ?_
      refine x_ws g21 ?_
      refine x_if_ne C (tgt := 31) dX12_flock_26 (by decide) rfl (fun c22 => ?_) (fun c22 => ?_)
      · skip
        have b23 := bI_n0 c22
        obtain ⟨a, ha1, ha2, han⟩ := w_nat (a := 1) (b := 20) (by decide) (by decide) b8
        obtain ⟨nn, hn1, hn2, hnn⟩ := w_nat (a := 1) (b := 12) (by decide) (by decide) b16
        have hin3 : wth hens 1 20 ∧ wth n 1 12 ∧ wth wh 0 1 := ⟨b8, b16, b23⟩
        subst han
        subst hnn
        refine x_iconst C (v := 0) dX12_flock_31 (by decide) rfl ?_
        refine x_istore C (lv' := [(4, .int 0), (0, .ref mm), (1, .int (nI a)), (2, .int (nI nn)), (3, .int wh)]) dX12_flock_32 (by decide) rfl rfl ?_
        refine x_iconst C (v := 0) dX12_flock_34 (by decide) rfl ?_
        refine x_istore C (lv' := [(5, .int 0), (4, .int 0), (0, .ref mm), (1, .int (nI a)), (2, .int (nI nn)), (3, .int wh)]) dX12_flock_35 (by decide) rfl rfl ?_
        refine x_iload C dX12_flock_37 0 rfl rfl ?_
        refine x_bipush C (v := 20) dX12_flock_39 (by decide) rfl ?_
        refine x_icmp_gt C (tgt := 58) dX12_flock_41 (by decide) rfl (fun h => absurd h (by decide)) (fun _ => ?_)
        refine x_aload_n C dX12_flock_44 rfl 2 rfl rfl ?_
        refine x_get C (ci := 11) (k := 45) 0 k_0 rfl in_X12 (by decide) w_1163 rfl dX12_flock_45 rfl ?_
        refine x_iload C dX12_flock_48 0 rfl rfl ?_
        refine x_iconst C (v := 0) dX12_flock_50 (by decide) rfl ?_
        refine x_iask C (ws1 := ws) 0 (by decide) (by decide) (by decide) 5 k_1 (by rw [upd_z]; exact set_same k_1) dX12_flock_51 rfl ?_
        refine x_iinc C (v := 1) (lv' := [(5, .int 1), (4, .int 0), (0, .ref mm), (1, .int (nI a)), (2, .int (nI nn)), (3, .int wh)]) dX12_flock_52 0 rfl (by decide) (by decide) rfl rfl ?_
        refine x_goto C (tgt := 37) dX12_flock_55 (by decide) ?_
        refine x_iload C dX12_flock_37 0 rfl rfl ?_
        refine x_bipush C (v := 20) dX12_flock_39 (by decide) rfl ?_
        refine x_icmp_gt C (tgt := 58) dX12_flock_41 (by decide) rfl (fun h => absurd h (by decide)) (fun _ => ?_)
        refine x_aload_n C dX12_flock_44 rfl 2 rfl rfl ?_
        refine x_get C (ci := 11) (k := 45) 0 k_0 rfl in_X12 (by decide) w_1163 rfl dX12_flock_45 rfl ?_
        refine x_iload C dX12_flock_48 0 rfl rfl ?_
        refine x_iconst C (v := 0) dX12_flock_50 (by decide) rfl ?_
        refine x_iask C (ws1 := ws) 1 (by decide) (by decide) (by decide) 5 k_1 (by rw [upd_z]; exact set_same k_1) dX12_flock_51 rfl ?_
        refine x_iinc C (v := 2) (lv' := [(5, .int 2), (4, .int 0), (0, .ref mm), (1, .int (nI a)), (2, .int (nI nn)), (3, .int wh)]) dX12_flock_52 0 rfl (by decide) (by decide) rfl rfl ?_
        refine x_goto C (tgt := 37) dX12_flock_55 (by decide) ?_
        refine x_iload C dX12_flock_37 0 rfl rfl ?_
        refine x_bipush C (v := 20) dX12_flock_39 (by decide) rfl ?_
        refine x_icmp_gt C (tgt := 58) dX12_flock_41 (by decide) rfl (fun h => absurd h (by decide)) (fun _ => ?_)
        refine x_aload_n C dX12_flock_44 rfl 2 rfl rfl ?_
        refine x_get C (ci := 11) (k := 45) 0 k_0 rfl in_X12 (by decide) w_1163 rfl dX12_flock_45 rfl ?_
        refine x_iload C dX12_flock_48 0 rfl rfl ?_
        refine x_iconst C (v := 0) dX12_flock_50 (by decide) rfl ?_
        refine x_iask C (ws1 := ws) 2 (by decide) (by decide) (by decide) 5 k_1 (by rw [upd_z]; exact set_same k_1) dX12_flock_51 rfl ?_
        refine x_iinc C (v := 3) (lv' := [(5, .int 3), (4, .int 0), (0, .ref mm), (1, .int (nI a)), (2, .int (nI nn)), (3, .int wh)]) dX12_flock_52 0 rfl (by decide) (by decide) rfl rfl ?_
        refine x_goto C (tgt := 37) dX12_flock_55 (by decide) ?_
        refine x_iload C dX12_flock_37 0 rfl rfl ?_
        refine x_bipush C (v := 20) dX12_flock_39 (by decide) rfl ?_
        refine x_icmp_gt C (tgt := 58) dX12_flock_41 (by decide) rfl (fun h => absurd h (by decide)) (fun _ => ?_)
        refine x_aload_n C dX12_flock_44 rfl 2 rfl rfl ?_
        refine x_get C (ci := 11) (k := 45) 0 k_0 rfl in_X12 (by decide) w_1163 rfl dX12_flock_45 rfl ?_
        refine x_iload C dX12_flock_48 0 rfl rfl ?_
        refine x_iconst C (v := 0) dX12_flock_50 (by decide) rfl ?_
        refine x_iask C (ws1 := ws) 3 (by decide) (by decide) (by decide) 5 k_1 (by rw [upd_z]; exact set_same k_1) dX12_flock_51 rfl ?_
        refine x_iinc C (v := 4) (lv' := [(5, .int 4), (4, .int 0), (0, .ref mm), (1, .int (nI a)), (2, .int (nI nn)), (3, .int wh)]) dX12_flock_52 0 rfl (by decide) (by decide) rfl rfl ?_
        refine x_goto C (tgt := 37) dX12_flock_55 (by decide) ?_
        refine x_iload C dX12_flock_37 0 rfl rfl ?_
        refine x_bipush C (v := 20) dX12_flock_39 (by decide) rfl ?_
        refine x_icmp_gt C (tgt := 58) dX12_flock_41 (by decide) rfl (fun h => absurd h (by decide)) (fun _ => ?_)
        refine x_aload_n C dX12_flock_44 rfl 2 rfl rfl ?_
        refine x_get C (ci := 11) (k := 45) 0 k_0 rfl in_X12 (by decide) w_1163 rfl dX12_flock_45 rfl ?_
        refine x_iload C dX12_flock_48 0 rfl rfl ?_
        refine x_iconst C (v := 0) dX12_flock_50 (by decide) rfl ?_
        refine x_iask C (ws1 := ws) 4 (by decide) (by decide) (by decide) 5 k_1 (by rw [upd_z]; exact set_same k_1) dX12_flock_51 rfl ?_
        refine x_iinc C (v := 5) (lv' := [(5, .int 5), (4, .int 0), (0, .ref mm), (1, .int (nI a)), (2, .int (nI nn)), (3, .int wh)]) dX12_flock_52 0 rfl (by decide) (by decide) rfl rfl ?_
        refine x_goto C (tgt := 37) dX12_flock_55 (by decide) ?_
        refine x_iload C dX12_flock_37 0 rfl rfl ?_
        refine x_bipush C (v := 20) dX12_flock_39 (by decide) rfl ?_
        refine x_icmp_gt C (tgt := 58) dX12_flock_41 (by decide) rfl (fun h => absurd h (by decide)) (fun _ => ?_)
        refine x_aload_n C dX12_flock_44 rfl 2 rfl rfl ?_
        refine x_get C (ci := 11) (k := 45) 0 k_0 rfl in_X12 (by decide) w_1163 rfl dX12_flock_45 rfl ?_
        refine x_iload C dX12_flock_48 0 rfl rfl ?_
        refine x_iconst C (v := 0) dX12_flock_50 (by decide) rfl ?_
        refine x_iask C (ws1 := ws) 5 (by decide) (by decide) (by decide) 5 k_1 (by rw [upd_z]; exact set_same k_1) dX12_flock_51 rfl ?_
        refine x_iinc C (v := 6) (lv' := [(5, .int 6), (4, .int 0), (0, .ref mm), (1, .int (nI a)), (2, .int (nI nn)), (3, .int wh)]) dX12_flock_52 0 rfl (by decide) (by decide) rfl rfl ?_
        refine x_goto C (tgt := 37) dX12_flock_55 (by decide) ?_
        refine x_iload C dX12_flock_37 0 rfl rfl ?_
        refine x_bipush C (v := 20) dX12_flock_39 (by decide) rfl ?_
        refine x_icmp_gt C (tgt := 58) dX12_flock_41 (by decide) rfl (fun h => absurd h (by decide)) (fun _ => ?_)
        refine x_aload_n C dX12_flock_44 rfl 2 rfl rfl ?_
        refine x_get C (ci := 11) (k := 45) 0 k_0 rfl in_X12 (by decide) w_1163 rfl dX12_flock_45 rfl ?_
        refine x_iload C dX12_flock_48 0 rfl rfl ?_
        refine x_iconst C (v := 0) dX12_flock_50 (by decide) rfl ?_
        refine x_iask C (ws1 := ws) 6 (by decide) (by decide) (by decide) 5 k_1 (by rw [upd_z]; exact set_same k_1) dX12_flock_51 rfl ?_
        refine x_iinc C (v := 7) (lv' := [(5, .int 7), (4, .int 0), (0, .ref mm), (1, .int (nI a)), (2, .int (nI nn)), (3, .int wh)]) dX12_flock_52 0 rfl (by decide) (by decide) rfl rfl ?_
        refine x_goto C (tgt := 37) dX12_flock_55 (by decide) ?_
        refine x_iload C dX12_flock_37 0 rfl rfl ?_
        refine x_bipush C (v := 20) dX12_flock_39 (by decide) rfl ?_
        refine x_icmp_gt C (tgt := 58) dX12_flock_41 (by decide) rfl (fun h => absurd h (by decide)) (fun _ => ?_)
        refine x_aload_n C dX12_flock_44 rfl 2 rfl rfl ?_
        refine x_get C (ci := 11) (k := 45) 0 k_0 rfl in_X12 (by decide) w_1163 rfl dX12_flock_45 rfl ?_
        refine x_iload C dX12_flock_48 0 rfl rfl ?_
        refine x_iconst C (v := 0) dX12_flock_50 (by decide) rfl ?_
        refine x_iask C (ws1 := ws) 7 (by decide) (by decide) (by decide) 5 k_1 (by rw [upd_z]; exact set_same k_1) dX12_flock_51 rfl ?_
        refine x_iinc C (v := 8) (lv' := [(5, .int 8), (4, .int 0), (0, .ref mm), (1, .int (nI a)), (2, .int (nI nn)), (3, .int wh)]) dX12_flock_52 0 rfl (by decide) (by decide) rfl rfl ?_
        refine x_goto C (tgt := 37) dX12_flock_55 (by decide) ?_
        refine x_iload C dX12_flock_37 0 rfl rfl ?_
        refine x_bipush C (v := 20) dX12_flock_39 (by decide) rfl ?_
        refine x_icmp_gt C (tgt := 58) dX12_flock_41 (by decide) rfl (fun h => absurd h (by decide)) (fun _ => ?_)
        refine x_aload_n C dX12_flock_44 rfl 2 rfl rfl ?_
        refine x_get C (ci := 11) (k := 45) 0 k_0 rfl in_X12 (by decide) w_1163 rfl dX12_flock_45 rfl ?_
        refine x_iload C dX12_flock_48 0 rfl rfl ?_
        refine x_iconst C (v := 0) dX12_flock_50 (by decide) rfl ?_
        refine x_iask C (ws1 := ws) 8 (by decide) (by decide) (by decide) 5 k_1 (by rw [upd_z]; exact set_same k_1) dX12_flock_51 rfl ?_
        refine x_iinc C (v := 9) (lv' := [(5, .int 9), (4, .int 0), (0, .ref mm), (1, .int (nI a)), (2, .int (nI nn)), (3, .int wh)]) dX12_flock_52 0 rfl (by decide) (by decide) rfl rfl ?_
        refine x_goto C (tgt := 37) dX12_flock_55 (by decide) ?_
        refine x_iload C dX12_flock_37 0 rfl rfl ?_
        refine x_bipush C (v := 20) dX12_flock_39 (by decide) rfl ?_
        refine x_icmp_gt C (tgt := 58) dX12_flock_41 (by decide) rfl (fun h => absurd h (by decide)) (fun _ => ?_)
        refine x_aload_n C dX12_flock_44 rfl 2 rfl rfl ?_
        refine x_get C (ci := 11) (k := 45) 0 k_0 rfl in_X12 (by decide) w_1163 rfl dX12_flock_45 rfl ?_
        refine x_iload C dX12_flock_48 0 rfl rfl ?_
        refine x_iconst C (v := 0) dX12_flock_50 (by decide) rfl ?_
        refine x_iask C (ws1 := ws) 9 (by decide) (by decide) (by decide) 5 k_1 (by rw [upd_z]; exact set_same k_1) dX12_flock_51 rfl ?_
        refine x_iinc C (v := 10) (lv' := [(5, .int 10), (4, .int 0), (0, .ref mm), (1, .int (nI a)), (2, .int (nI nn)), (3, .int wh)]) dX12_flock_52 0 rfl (by decide) (by decide) rfl rfl ?_
        refine x_goto C (tgt := 37) dX12_flock_55 (by decide) ?_
        refine x_iload C dX12_flock_37 0 rfl rfl ?_
        refine x_bipush C (v := 20) dX12_flock_39 (by decide) rfl ?_
        refine x_icmp_gt C (tgt := 58) dX12_flock_41 (by decide) rfl (fun h => absurd h (by decide)) (fun _ => ?_)
        refine x_aload_n C dX12_flock_44 rfl 2 rfl rfl ?_
        refine x_get C (ci := 11) (k := 45) 0 k_0 rfl in_X12 (by decide) w_1163 rfl dX12_flock_45 rfl ?_
        refine x_iload C dX12_flock_48 0 rfl rfl ?_
        refine x_iconst C (v := 0) dX12_flock_50 (by decide) rfl ?_
        refine x_iask C (ws1 := ws) 10 (by decide) (by decide) (by decide) 5 k_1 (by rw [upd_z]; exact set_same k_1) dX12_flock_51 rfl ?_
        refine x_iinc C (v := 11) (lv' := [(5, .int 11), (4, .int 0), (0, .ref mm), (1, .int (nI a)), (2, .int (nI nn)), (3, .int wh)]) dX12_flock_52 0 rfl (by decide) (by decide) rfl rfl ?_
        refine x_goto C (tgt := 37) dX12_flock_55 (by decide) ?_
        refine x_iload C dX12_flock_37 0 rfl rfl ?_
        refine x_bipush C (v := 20) dX12_flock_39 (by decide) rfl ?_
        refine x_icmp_gt C (tgt := 58) dX12_flock_41 (by decide) rfl (fun h => absurd h (by decide)) (fun _ => ?_)
        refine x_aload_n C dX12_flock_44 rfl 2 rfl rfl ?_
        refine x_get C (ci := 11) (k := 45) 0 k_0 rfl in_X12 (by decide) w_1163 rfl dX12_flock_45 rfl ?_
        refine x_iload C dX12_flock_48 0 rfl rfl ?_
        refine x_iconst C (v := 0) dX12_flock_50 (by decide) rfl ?_
        refine x_iask C (ws1 := ws) 11 (by decide) (by decide) (by decide) 5 k_1 (by rw [upd_z]; exact set_same k_1) dX12_flock_51 rfl ?_
        refine x_iinc C (v := 12) (lv' := [(5, .int 12), (4, .int 0), (0, .ref mm), (1, .int (nI a)), (2, .int (nI nn)), (3, .int wh)]) dX12_flock_52 0 rfl (by decide) (by decide) rfl rfl ?_
        refine x_goto C (tgt := 37) dX12_flock_55 (by decide) ?_
        refine x_iload C dX12_flock_37 0 rfl rfl ?_
        refine x_bipush C (v := 20) dX12_flock_39 (by decide) rfl ?_
        refine x_icmp_gt C (tgt := 58) dX12_flock_41 (by decide) rfl (fun h => absurd h (by decide)) (fun _ => ?_)
        refine x_aload_n C dX12_flock_44 rfl 2 rfl rfl ?_
        refine x_get C (ci := 11) (k := 45) 0 k_0 rfl in_X12 (by decide) w_1163 rfl dX12_flock_45 rfl ?_
        refine x_iload C dX12_flock_48 0 rfl rfl ?_
        refine x_iconst C (v := 0) dX12_flock_50 (by decide) rfl ?_
        refine x_iask C (ws1 := ws) 12 (by decide) (by decide) (by decide) 5 k_1 (by rw [upd_z]; exact set_same k_1) dX12_flock_51 rfl ?_
        refine x_iinc C (v := 13) (lv' := [(5, .int 13), (4, .int 0), (0, .ref mm), (1, .int (nI a)), (2, .int (nI nn)), (3, .int wh)]) dX12_flock_52 0 rfl (by decide) (by decide) rfl rfl ?_
        refine x_goto C (tgt := 37) dX12_flock_55 (by decide) ?_
        refine x_iload C dX12_flock_37 0 rfl rfl ?_
        refine x_bipush C (v := 20) dX12_flock_39 (by decide) rfl ?_
        refine x_icmp_gt C (tgt := 58) dX12_flock_41 (by decide) rfl (fun h => absurd h (by decide)) (fun _ => ?_)
        refine x_aload_n C dX12_flock_44 rfl 2 rfl rfl ?_
        refine x_get C (ci := 11) (k := 45) 0 k_0 rfl in_X12 (by decide) w_1163 rfl dX12_flock_45 rfl ?_
        refine x_iload C dX12_flock_48 0 rfl rfl ?_
        refine x_iconst C (v := 0) dX12_flock_50 (by decide) rfl ?_
        refine x_iask C (ws1 := ws) 13 (by decide) (by decide) (by decide) 5 k_1 (by rw [upd_z]; exact set_same k_1) dX12_flock_51 rfl ?_
        refine x_iinc C (v := 14) (lv' := [(5, .int 14), (4, .int 0), (0, .ref mm), (1, .int (nI a)), (2, .int (nI nn)), (3, .int wh)]) dX12_flock_52 0 rfl (by decide) (by decide) rfl rfl ?_
        refine x_goto C (tgt := 37) dX12_flock_55 (by decide) ?_
        refine x_iload C dX12_flock_37 0 rfl rfl ?_
        refine x_bipush C (v := 20) dX12_flock_39 (by decide) rfl ?_
        refine x_icmp_gt C (tgt := 58) dX12_flock_41 (by decide) rfl (fun h => absurd h (by decide)) (fun _ => ?_)
        refine x_aload_n C dX12_flock_44 rfl 2 rfl rfl ?_
        refine x_get C (ci := 11) (k := 45) 0 k_0 rfl in_X12 (by decide) w_1163 rfl dX12_flock_45 rfl ?_
        refine x_iload C dX12_flock_48 0 rfl rfl ?_
        refine x_iconst C (v := 0) dX12_flock_50 (by decide) rfl ?_
        refine x_iask C (ws1 := ws) 14 (by decide) (by decide) (by decide) 5 k_1 (by rw [upd_z]; exact set_same k_1) dX12_flock_51 rfl ?_
        refine x_iinc C (v := 15) (lv' := [(5, .int 15), (4, .int 0), (0, .ref mm), (1, .int (nI a)), (2, .int (nI nn)), (3, .int wh)]) dX12_flock_52 0 rfl (by decide) (by decide) rfl rfl ?_
        refine x_goto C (tgt := 37) dX12_flock_55 (by decide) ?_
        refine x_iload C dX12_flock_37 0 rfl rfl ?_
        refine x_bipush C (v := 20) dX12_flock_39 (by decide) rfl ?_
        refine x_icmp_gt C (tgt := 58) dX12_flock_41 (by decide) rfl (fun h => absurd h (by decide)) (fun _ => ?_)
        refine x_aload_n C dX12_flock_44 rfl 2 rfl rfl ?_
        refine x_get C (ci := 11) (k := 45) 0 k_0 rfl in_X12 (by decide) w_1163 rfl dX12_flock_45 rfl ?_
        refine x_iload C dX12_flock_48 0 rfl rfl ?_
        refine x_iconst C (v := 0) dX12_flock_50 (by decide) rfl ?_
        refine x_iask C (ws1 := ws) 15 (by decide) (by decide) (by decide) 5 k_1 (by rw [upd_z]; exact set_same k_1) dX12_flock_51 rfl ?_
        refine x_iinc C (v := 16) (lv' := [(5, .int 16), (4, .int 0), (0, .ref mm), (1, .int (nI a)), (2, .int (nI nn)), (3, .int wh)]) dX12_flock_52 0 rfl (by decide) (by decide) rfl rfl ?_
        refine x_goto C (tgt := 37) dX12_flock_55 (by decide) ?_
        refine x_iload C dX12_flock_37 0 rfl rfl ?_
        refine x_bipush C (v := 20) dX12_flock_39 (by decide) rfl ?_
        refine x_icmp_gt C (tgt := 58) dX12_flock_41 (by decide) rfl (fun h => absurd h (by decide)) (fun _ => ?_)
        refine x_aload_n C dX12_flock_44 rfl 2 rfl rfl ?_
        refine x_get C (ci := 11) (k := 45) 0 k_0 rfl in_X12 (by decide) w_1163 rfl dX12_flock_45 rfl ?_
        refine x_iload C dX12_flock_48 0 rfl rfl ?_
        refine x_iconst C (v := 0) dX12_flock_50 (by decide) rfl ?_
        refine x_iask C (ws1 := ws) 16 (by decide) (by decide) (by decide) 5 k_1 (by rw [upd_z]; exact set_same k_1) dX12_flock_51 rfl ?_
        refine x_iinc C (v := 17) (lv' := [(5, .int 17), (4, .int 0), (0, .ref mm), (1, .int (nI a)), (2, .int (nI nn)), (3, .int wh)]) dX12_flock_52 0 rfl (by decide) (by decide) rfl rfl ?_
        refine x_goto C (tgt := 37) dX12_flock_55 (by decide) ?_
        refine x_iload C dX12_flock_37 0 rfl rfl ?_
        refine x_bipush C (v := 20) dX12_flock_39 (by decide) rfl ?_
        refine x_icmp_gt C (tgt := 58) dX12_flock_41 (by decide) rfl (fun h => absurd h (by decide)) (fun _ => ?_)
        refine x_aload_n C dX12_flock_44 rfl 2 rfl rfl ?_
        refine x_get C (ci := 11) (k := 45) 0 k_0 rfl in_X12 (by decide) w_1163 rfl dX12_flock_45 rfl ?_
        refine x_iload C dX12_flock_48 0 rfl rfl ?_
        refine x_iconst C (v := 0) dX12_flock_50 (by decide) rfl ?_
        refine x_iask C (ws1 := ws) 17 (by decide) (by decide) (by decide) 5 k_1 (by rw [upd_z]; exact set_same k_1) dX12_flock_51 rfl ?_
        refine x_iinc C (v := 18) (lv' := [(5, .int 18), (4, .int 0), (0, .ref mm), (1, .int (nI a)), (2, .int (nI nn)), (3, .int wh)]) dX12_flock_52 0 rfl (by decide) (by decide) rfl rfl ?_
        refine x_goto C (tgt := 37) dX12_flock_55 (by decide) ?_
        refine x_iload C dX12_flock_37 0 rfl rfl ?_
        refine x_bipush C (v := 20) dX12_flock_39 (by decide) rfl ?_
        refine x_icmp_gt C (tgt := 58) dX12_flock_41 (by decide) rfl (fun h => absurd h (by decide)) (fun _ => ?_)
        refine x_aload_n C dX12_flock_44 rfl 2 rfl rfl ?_
        refine x_get C (ci := 11) (k := 45) 0 k_0 rfl in_X12 (by decide) w_1163 rfl dX12_flock_45 rfl ?_
        refine x_iload C dX12_flock_48 0 rfl rfl ?_
        refine x_iconst C (v := 0) dX12_flock_50 (by decide) rfl ?_
        refine x_iask C (ws1 := ws) 18 (by decide) (by decide) (by decide) 5 k_1 (by rw [upd_z]; exact set_same k_1) dX12_flock_51 rfl ?_
        refine x_iinc C (v := 19) (lv' := [(5, .int 19), (4, .int 0), (0, .ref mm), (1, .int (nI a)), (2, .int (nI nn)), (3, .int wh)]) dX12_flock_52 0 rfl (by decide) (by decide) rfl rfl ?_
        refine x_goto C (tgt := 37) dX12_flock_55 (by decide) ?_
        refine x_iload C dX12_flock_37 0 rfl rfl ?_
        refine x_bipush C (v := 20) dX12_flock_39 (by decide) rfl ?_
        refine x_icmp_gt C (tgt := 58) dX12_flock_41 (by decide) rfl (fun h => absurd h (by decide)) (fun _ => ?_)
        refine x_aload_n C dX12_flock_44 rfl 2 rfl rfl ?_
        refine x_get C (ci := 11) (k := 45) 0 k_0 rfl in_X12 (by decide) w_1163 rfl dX12_flock_45 rfl ?_
        refine x_iload C dX12_flock_48 0 rfl rfl ?_
        refine x_iconst C (v := 0) dX12_flock_50 (by decide) rfl ?_
        refine x_iask C (ws1 := ws) 19 (by decide) (by decide) (by decide) 5 k_1 (by rw [upd_z]; exact set_same k_1) dX12_flock_51 rfl ?_
        refine x_iinc C (v := 20) (lv' := [(5, .int 20), (4, .int 0), (0, .ref mm), (1, .int (nI a)), (2, .int (nI nn)), (3, .int wh)]) dX12_flock_52 0 rfl (by decide) (by decide) rfl rfl ?_
        refine x_goto C (tgt := 37) dX12_flock_55 (by decide) ?_
        refine x_iload C dX12_flock_37 0 rfl rfl ?_
        refine x_bipush C (v := 20) dX12_flock_39 (by decide) rfl ?_
        refine x_icmp_gt C (tgt := 58) dX12_flock_41 (by decide) rfl (fun h => absurd h (by decide)) (fun _ => ?_)
        refine x_aload_n C dX12_flock_44 rfl 2 rfl rfl ?_
        refine x_get C (ci := 11) (k := 45) 0 k_0 rfl in_X12 (by decide) w_1163 rfl dX12_flock_45 rfl ?_
        refine x_iload C dX12_flock_48 0 rfl rfl ?_
        refine x_iconst C (v := 0) dX12_flock_50 (by decide) rfl ?_
        refine x_iask C (ws1 := ws) 20 (by decide) (by decide) (by decide) 5 k_1 (by rw [upd_z]; exact set_same k_1) dX12_flock_51 rfl ?_
        refine x_iinc C (v := 21) (lv' := [(5, .int 21), (4, .int 0), (0, .ref mm), (1, .int (nI a)), (2, .int (nI nn)), (3, .int wh)]) dX12_flock_52 0 rfl (by decide) (by decide) rfl rfl ?_
        refine x_goto C (tgt := 37) dX12_flock_55 (by decide) ?_
        refine x_iload C dX12_flock_37 0 rfl rfl ?_
        refine x_bipush C (v := 20) dX12_flock_39 (by decide) rfl ?_
        refine x_icmp_gt C (tgt := 58) dX12_flock_41 (by decide) rfl (fun _ => ?_) (fun h => absurd h (by decide))
        refine x_iconst C (v := 1) dX12_flock_58 (by decide) rfl ?_
        refine x_istore C (lv' := [(5, .int 1), (4, .int 0), (0, .ref mm), (1, .int (nI a)), (2, .int (nI nn)), (3, .int wh)]) dX12_flock_59 (by decide) rfl rfl ?_
        have loop : ∀ (fu1 d : Nat) (wl : va_W) (f : Nat → Int32) (ht : Int32), d ≤ nn → nn - d < fu1 → wl[0]? = some (ob mm 11 [.ref m0, .ref m1, .ref m2, .ref m3, .int 0, .int 0, .int 0, .int 0, .int 0, .int 0, .int 0, .int 0, .int 0, .int 0, .ref m14, .ref m15, .ref m16, .ref m17, .ref m18, .ref m19, .ref m20, .ref m21, .ref m22, .ref m23, .ref m24, .ref m25, .ref m26, .int 0, .ref m28, .ref m29, .ref m30, .ref m31, .int 0, .int 0, .int 0, .int 0, .int 0, .int 0, .ref m38, .ref m39, .ref m40, .ref m41, .ref m42, .ref m43, .ref m44, .ref m45, .ref m46, .int 0]) → wl[5]? = some (iA E m45 273 f) → (∀ j, 1 ≤ j → j ≤ 20 → f (21 * d + j) = nI (fh d j)) → (1 ≤ d → ht = nI (fb (d - 1) a)) → X E p l e (xRm 2 0 0) s m ([.ref mm, .int (nI a), .int (nI nn), .int wh] : List Value).toArray below meth c A 9 0 0 (MQ below (va_Qi (fun r w => r = flk (nI a) (nI nn) wh) (xB E A) A) ([.ref mm, .int (nI a), .int (nI nn), .int wh] : List Value).toArray s 0 0 A) wl 61 [(5, .int (nI (d + 1))), (4, .int ht), (0, .ref mm), (1, .int (nI a)), (2, .int (nI nn)), (3, .int wh)] [] := by
          intro fu1
          induction fu1 with
          | zero => intro d _ _ _ _ h; omega
          | succ fu1 ih =>
            intro d wl f ht h1 h2 z0 z1 hf hht
            refine x_iload C dX12_flock_61 0 rfl rfl ?_
            refine x_iload_n C dX12_flock_63 rfl 4 rfl rfl ?_
            refine x_icmp_gt C (tgt := 176) dX12_flock_64 (by decide) rfl (fun c24 => ?_) (fun c24 => ?_)
            · skip
              have hdeq : d = nn := by
                have := nI_lt' c24 (by omega) (by omega)
                omega
              refine x_iload_n C dX12_flock_176 rfl 5 rfl rfl ?_
              refine x_if_ne C (tgt := 194) dX12_flock_177 (by decide) rfl (fun c25 => ?_) (fun c25 => ?_)
              · skip
                refine x_iload C dX12_flock_194 1 rfl rfl ?_
                exact x_zret C hr hlk rfl dX12_flock_196 (by rw [flk, if_pos hin3, if_neg c25, nI_clamp (by omega), nI_clamp (by omega), hht (by omega), hdeq])
              · skip
                refine x_aload_n C dX12_flock_180 rfl 2 rfl rfl ?_
                refine x_get C (ci := 11) (k := 45) 0 z0 rfl in_X12 (by decide) w_1163 rfl dX12_flock_181 rfl ?_
                refine x_bipush C (v := 21) dX12_flock_184 (by decide) rfl ?_
                refine x_iload_n C dX12_flock_186 rfl 4 rfl rfl ?_
                refine x_imul C (v := ((21 : Int32) * (nI nn))) dX12_flock_187 rfl rfl ?_
                refine x_top (v := (nI (21 * nn))) (pk_mul 21 nn) ?_
                refine x_iload_n C dX12_flock_188 rfl 3 rfl rfl ?_
                refine x_iadd C (v := ((nI (21 * nn)) + (nI a))) dX12_flock_189 rfl rfl ?_
                refine x_top (v := (nI (21 * nn + a))) (nI_add _ _) ?_
                refine x_iald C (v := nI (fh nn a)) 5 z1 (vp_in_nI (by omega) (by decide)) (by rw [nI_clamp (by omega), ← hdeq]; exact hf a ha1 ha2) dX12_flock_190 rfl ?_
                refine x_goto C (tgt := 196) dX12_flock_191 (by decide) ?_
                exact x_zret C hr hlk rfl dX12_flock_196 (by rw [flk, if_pos hin3, if_pos c25, nI_clamp (by omega), nI_clamp (by omega)])
            · skip
              have hdn : d + 1 ≤ nn := nI_nlt' c24 (by omega) (by omega)
              refine x_iconst C (v := 1) dX12_flock_67 (by decide) rfl ?_
              refine x_istore C (lv' := [(6, .int 1), (5, .int (nI (d + 1))), (4, .int ht), (0, .ref mm), (1, .int (nI a)), (2, .int (nI nn)), (3, .int wh)]) dX12_flock_68 (by decide) rfl rfl ?_
              have inner : ∀ (fu2 h : Nat) (wi : va_W) (f : Nat → Int32) (ht : Int32), 1 ≤ h → h ≤ 21 → 21 - h < fu2 → wi[0]? = some (ob mm 11 [.ref m0, .ref m1, .ref m2, .ref m3, .int 0, .int 0, .int 0, .int 0, .int 0, .int 0, .int 0, .int 0, .int 0, .int 0, .ref m14, .ref m15, .ref m16, .ref m17, .ref m18, .ref m19, .ref m20, .ref m21, .ref m22, .ref m23, .ref m24, .ref m25, .ref m26, .int 0, .ref m28, .ref m29, .ref m30, .ref m31, .int 0, .int 0, .int 0, .int 0, .int 0, .int 0, .ref m38, .ref m39, .ref m40, .ref m41, .ref m42, .ref m43, .ref m44, .ref m45, .ref m46, .int 0]) → wi[5]? = some (iA E m45 273 f) → (∀ j, 1 ≤ j → j ≤ 20 → f (21 * d + j) = nI (fh d j)) → (∀ j, 1 ≤ j → j < h → f (21 * (d + 1) + j) = nI (fh (d + 1) j)) → (a < h → ht = nI (fb d a)) → X E p l e (xRm 2 0 0) s m ([.ref mm, .int (nI a), .int (nI nn), .int wh] : List Value).toArray below meth c A 9 0 0 (MQ below (va_Qi (fun r w => r = flk (nI a) (nI nn) wh) (xB E A) A) ([.ref mm, .int (nI a), .int (nI nn), .int wh] : List Value).toArray s 0 0 A) wi 70 [(6, .int (nI h)), (5, .int (nI (d + 1))), (4, .int ht), (0, .ref mm), (1, .int (nI a)), (2, .int (nI nn)), (3, .int wh)] [] := by
                intro fu2
                induction fu2 with
                | zero => intro h _ _ _ _ _ q; omega
                | succ fu2 ih2 =>
                  intro h wi f ht g1 g2 g3 y0 y1 hf hf2 hht
                  refine x_iload C dX12_flock_70 0 rfl rfl ?_
                  refine x_bipush C (v := 20) dX12_flock_72 (by decide) rfl ?_
                  refine x_icmp_gt C (tgt := 170) dX12_flock_74 (by decide) rfl (fun c26 => ?_) (fun c26 => ?_)
                  · skip
                    have h21 : h = 21 := by
                      have := nI_lt' (a := 20) c26 (by decide) (by omega)
                      omega
                    refine x_iinc C (v := ((nI (d + 1)) + 1)) (lv' := [(5, .int ((nI (d + 1)) + 1)), (6, .int (nI h)), (4, .int ht), (0, .ref mm), (1, .int (nI a)), (2, .int (nI nn)), (3, .int wh)]) dX12_flock_170 1 rfl rfl (by decide) rfl rfl ?_
                    refine x_goto C (tgt := 61) dX12_flock_173 (by decide) ?_
                    refine x_lv (lv1 := [(5, .int (nI (d + 1) + 1)), (4, .int ht), (0, .ref mm), (1, .int (nI a)), (2, .int (nI nn)), (3, .int wh)]) [0, 2, 3, 4, 5, 6] rfl ?_
                    rw [nI_1]
                    exact ih (d + 1) wi f ht hdn (by omega) y0 y1 (fun j q1 q2 => hf2 j q1 (by omega)) (fun _ => hht (by omega))
                  · skip
                    have hh20 : h ≤ 20 := nI_nlt' (a := 20) c26 (by decide) (by omega)
                    have hbl := fb_le d h
                    have hm1 := mn_le h
                    have hm2 := mn_20 hh20
                    refine x_iconst C (v := 0) dX12_flock_77 (by decide) rfl ?_
                    refine x_istore C (lv' := [(7, .int 0), (6, .int (nI h)), (5, .int (nI (d + 1))), (4, .int ht), (0, .ref mm), (1, .int (nI a)), (2, .int (nI nn)), (3, .int wh)]) dX12_flock_78 (by decide) rfl rfl ?_
                    refine x_iconst C (v := 1) dX12_flock_80 (by decide) rfl ?_
                    refine x_istore C (lv' := [(8, .int 1), (7, .int 0), (6, .int (nI h)), (5, .int (nI (d + 1))), (4, .int ht), (0, .ref mm), (1, .int (nI a)), (2, .int (nI nn)), (3, .int wh)]) dX12_flock_81 (by decide) rfl rfl ?_
                    have xl : ∀ (fu3 k : Nat), k ≤ mn h → mn h - k < fu3 → X E p l e (xRm 2 0 0) s m ([.ref mm, .int (nI a), .int (nI nn), .int wh] : List Value).toArray below meth c A 9 0 0 (MQ below (va_Qi (fun r w => r = flk (nI a) (nI nn) wh) (xB E A) A) ([.ref mm, .int (nI a), .int (nI nn), .int wh] : List Value).toArray s 0 0 A) wi 83 [(8, .int (nI (k + 1))), (7, .int (nI (sc (fh d) h k))), (6, .int (nI h)), (5, .int (nI (d + 1))), (4, .int ht), (0, .ref mm), (1, .int (nI a)), (2, .int (nI nn)), (3, .int wh)] [] := by
                      intro fu3
                      induction fu3 with
                      | zero => intro k _ q; omega
                      | succ fu3 ih3 =>
                        intro k k1 k2
                        have hsk := sc_le (fh d) h k
                        refine x_iload C dX12_flock_83 0 rfl rfl ?_
                        refine x_iload C dX12_flock_85 2 rfl rfl ?_
                        refine x_bipush C (v := 20) dX12_flock_87 (by decide) rfl ?_
                        refine x_iload C dX12_flock_89 2 rfl rfl ?_
                        refine x_isub C (v := ((20 : Int32) - (nI h))) dX12_flock_91 rfl rfl ?_
                        refine x_top (v := (nI (20 - h))) (pk_sub (a := 20) hh20) ?_
                        refine x_si C (As := [.int (nI h), .int (nI (20 - h))]) (rest := [.int (nI (k + 1))]) (e_min E l wi h (20 - h) (by omega) (by omega)) mf_X12_min w_1479 rfl rfl (Nat.le_of_ble_eq_true rfl) ⟨(Nat.le_of_ble_eq_true rfl), (Nat.le_of_ble_eq_true rfl)⟩ ⟨(Nat.le_of_ble_eq_true rfl), (Nat.le_of_ble_eq_true rfl)⟩ dX12_flock_92 rfl (fun rr27 w28 h29 => ?_)
                        obtain ⟨e30, g31⟩ := h29
                        refine x_top (v := nI (mn h)) e30 (x_ws g31 ?_)
                        refine x_icmp_gt C (tgt := 131) dX12_flock_95 (by decide) rfl (fun c32 => ?_) (fun c32 => ?_)
                        · skip
                          have hkm : k = mn h := by
                            have := nI_lt' c32 (by omega) (by omega)
                            omega
                          subst hkm
                          have efb : sc (fh d) h (mn h) = fb d h := rfl
                          rw [efb]
                          refine x_aload_n C dX12_flock_131 rfl 5 rfl rfl ?_
                          refine x_get C (ci := 11) (k := 45) 0 y0 rfl in_X12 (by decide) w_1163 rfl dX12_flock_132 rfl ?_
                          refine x_bipush C (v := 21) dX12_flock_135 (by decide) rfl ?_
                          refine x_iload C dX12_flock_137 3 rfl rfl ?_
                          refine x_imul C (v := ((21 : Int32) * (nI (d + 1)))) dX12_flock_139 rfl rfl ?_
                          refine x_top (v := (nI (21 * (d + 1)))) (pk_mul 21 (d + 1)) ?_
                          refine x_iload C dX12_flock_140 2 rfl rfl ?_
                          refine x_iadd C (v := ((nI (21 * (d + 1))) + (nI h))) dX12_flock_142 rfl rfl ?_
                          refine x_top (v := (nI (21 * (d + 1) + h))) (nI_add _ _) ?_
                          refine x_aload_n C dX12_flock_143 rfl 5 rfl rfl ?_
                          refine x_iload C dX12_flock_144 3 rfl rfl ?_
                          refine x_iload C dX12_flock_146 2 rfl rfl ?_
                          refine x_iload C dX12_flock_148 1 rfl rfl ?_
                          refine x_vi C (As := [.int (nI (d + 1)), .int (nI h), .int (nI (fb d h))]) (rest := [.int (nI (21 * (d + 1) + h)), .ref m45]) (e_hoursBy E l wi 0 y0 5 y1 d h (fb d h) (fh d (h + (fb d h))) (by omega) (by omega) (by omega) (by rw [show 21 * d + h + (fb d h) = 21 * d + (h + (fb d h)) by omega]; exact hf _ (by omega) (by omega))) mf_X12_hoursBy w_1597 0 y0 rfl rfl rfl (Nat.le_of_ble_eq_true rfl) ⟨(Nat.le_of_ble_eq_true rfl), (Nat.le_of_ble_eq_true rfl)⟩ ⟨(Nat.le_of_ble_eq_true rfl), (Nat.le_of_ble_eq_true rfl)⟩ dX12_flock_150 rfl (fun rr33 w34 h35 => ?_)
                          obtain ⟨e36, g37⟩ := h35
                          refine x_top (v := nI (fv (fh d) h (fb d h))) e36 (x_ws g37 ?_)
                          obtain ⟨w38, hw39⟩ : ∃ w : va_W, w = List.set wi 5 (iA E m45 273 (upd f (21 * (d + 1) + h) (nI (fh (d + 1) h)))) := ⟨_, rfl⟩
                          refine x_iask C (21 * (d + 1) + h) (nI_clamp (by omega)) (nI_pos (by omega)) (by omega) 5 y1 hw39.symm dX12_flock_153 rfl ?_
                          have k40 : w38[0]? = some (ob mm 11 [.ref m0, .ref m1, .ref m2, .ref m3, .int 0, .int 0, .int 0, .int 0, .int 0, .int 0, .int 0, .int 0, .int 0, .int 0, .ref m14, .ref m15, .ref m16, .ref m17, .ref m18, .ref m19, .ref m20, .ref m21, .ref m22, .ref m23, .ref m24, .ref m25, .ref m26, .int 0, .ref m28, .ref m29, .ref m30, .ref m31, .int 0, .int 0, .int 0, .int 0, .int 0, .int 0, .ref m38, .ref m39, .ref m40, .ref m41, .ref m42, .ref m43, .ref m44, .ref m45, .ref m46, .int 0]) := by rw [hw39]; exact set_ne y0 (by decide)
                          have k41 : w38[5]? = some (iA E m45 273 (upd f (21 * (d + 1) + h) (nI (fh (d + 1) h)))) := by rw [hw39]; exact set_eq y1
                          refine x_iload C dX12_flock_154 2 rfl rfl ?_
                          refine x_iload_n C dX12_flock_156 rfl 6 rfl rfl ?_
                          refine x_icmp_ne C (tgt := 164) dX12_flock_157 (by decide) rfl (fun c42 => ?_) (fun c42 => ?_)
                          · skip
                            have hne : ¬ h = a := fun q => c42 (by rw [q])
                            refine x_iinc C (v := ((nI h) + 1)) (lv' := [(6, .int ((nI h) + 1)), (8, .int (nI (mn h + 1))), (7, .int (nI (fb d h))), (5, .int (nI (d + 1))), (4, .int ht), (0, .ref mm), (1, .int (nI a)), (2, .int (nI nn)), (3, .int wh)]) dX12_flock_164 2 rfl rfl (by decide) rfl rfl ?_
                            refine x_goto C (tgt := 70) dX12_flock_167 (by decide) ?_
                            refine x_lv (lv1 := [(6, .int (nI h + 1)), (5, .int (nI (d + 1))), (4, .int ht), (0, .ref mm), (1, .int (nI a)), (2, .int (nI nn)), (3, .int wh)]) [0, 3, 4, 5, 6, 7, 8] rfl ?_
                            rw [nI_1]
                            exact ih2 (h + 1) w38 _ ht (by omega) (by omega) (by omega) k40 k41 (ml_row hf g1) (ml_step hf2 g1) (fun q => hht (by have := hne; omega))
                          · skip
                            have hae : a = h := ((nI_eq (by omega) (by omega)).mp c42).symm
                            refine x_iload C dX12_flock_160 1 rfl rfl ?_
                            refine x_istore C (lv' := [(4, .int (nI (fb d h))), (8, .int (nI (mn h + 1))), (7, .int (nI (fb d h))), (6, .int (nI h)), (5, .int (nI (d + 1))), (0, .ref mm), (1, .int (nI a)), (2, .int (nI nn)), (3, .int wh)]) dX12_flock_162 (by decide) rfl rfl ?_
                            refine x_iinc C (v := ((nI h) + 1)) (lv' := [(6, .int ((nI h) + 1)), (4, .int (nI (fb d h))), (8, .int (nI (mn h + 1))), (7, .int (nI (fb d h))), (5, .int (nI (d + 1))), (0, .ref mm), (1, .int (nI a)), (2, .int (nI nn)), (3, .int wh)]) dX12_flock_164 3 rfl rfl (by decide) rfl rfl ?_
                            refine x_goto C (tgt := 70) dX12_flock_167 (by decide) ?_
                            refine x_lv (lv1 := [(6, .int (nI h + 1)), (5, .int (nI (d + 1))), (4, .int (nI (fb d h))), (0, .ref mm), (1, .int (nI a)), (2, .int (nI nn)), (3, .int wh)]) [0, 4, 1, 5, 6, 7, 8] rfl ?_
                            rw [nI_1]
                            exact ih2 (h + 1) w38 _ (nI (fb d h)) (by omega) (by omega) (by omega) k40 k41 (ml_row hf g1) (ml_step hf2 g1) (fun _ => by rw [hae])
                        · skip
                          have hk1 : k + 1 ≤ mn h := nI_nlt' c32 (by omega) (by omega)
                          refine x_aload_n C dX12_flock_98 rfl 5 rfl rfl ?_
                          refine x_iload C dX12_flock_99 3 rfl rfl ?_
                          refine x_iload C dX12_flock_101 2 rfl rfl ?_
                          refine x_iload C dX12_flock_103 0 rfl rfl ?_
                          refine x_vi C (As := [.int (nI (d + 1)), .int (nI h), .int (nI (k + 1))]) (rest := []) (e_hoursBy E l wi 0 y0 5 y1 d h (k + 1) (fh d (h + (k + 1))) (by omega) (by omega) (by omega) (by rw [show 21 * d + h + (k + 1) = 21 * d + (h + (k + 1)) by omega]; exact hf _ (by omega) (by omega))) mf_X12_hoursBy w_1597 0 y0 rfl rfl rfl (Nat.le_of_ble_eq_true rfl) ⟨(Nat.le_of_ble_eq_true rfl), (Nat.le_of_ble_eq_true rfl)⟩ ⟨(Nat.le_of_ble_eq_true rfl), (Nat.le_of_ble_eq_true rfl)⟩ dX12_flock_105 rfl (fun rr43 w44 h45 => ?_)
                          obtain ⟨e46, g47⟩ := h45
                          refine x_top (v := nI (fv (fh d) h (k + 1))) e46 (x_ws g47 ?_)
                          refine x_aload_n C dX12_flock_108 rfl 5 rfl rfl ?_
                          refine x_iload C dX12_flock_109 3 rfl rfl ?_
                          refine x_iload C dX12_flock_111 2 rfl rfl ?_
                          refine x_iload C dX12_flock_113 1 rfl rfl ?_
                          refine x_vi C (As := [.int (nI (d + 1)), .int (nI h), .int (nI (sc (fh d) h k))]) (rest := [.int (nI (fv (fh d) h (k + 1)))]) (e_hoursBy E l wi 0 y0 5 y1 d h (sc (fh d) h k) (fh d (h + (sc (fh d) h k))) (by omega) (by omega) (by omega) (by rw [show 21 * d + h + (sc (fh d) h k) = 21 * d + (h + (sc (fh d) h k)) by omega]; exact hf _ (by omega) (by omega))) mf_X12_hoursBy w_1597 0 y0 rfl rfl rfl (Nat.le_of_ble_eq_true rfl) ⟨(Nat.le_of_ble_eq_true rfl), (Nat.le_of_ble_eq_true rfl)⟩ ⟨(Nat.le_of_ble_eq_true rfl), (Nat.le_of_ble_eq_true rfl)⟩ dX12_flock_115 rfl (fun rr48 w49 h50 => ?_)
                          obtain ⟨e51, g52⟩ := h50
                          refine x_top (v := nI (fv (fh d) h (sc (fh d) h k))) e51 (x_ws g52 ?_)
                          refine x_icmp_le C (tgt := 125) dX12_flock_118 (by decide) rfl (fun c53 => ?_) (fun c53 => ?_)
                          · skip
                            refine x_iinc C (v := ((nI (k + 1)) + 1)) (lv' := [(8, .int ((nI (k + 1)) + 1)), (7, .int (nI (sc (fh d) h k))), (6, .int (nI h)), (5, .int (nI (d + 1))), (4, .int ht), (0, .ref mm), (1, .int (nI a)), (2, .int (nI nn)), (3, .int wh)]) dX12_flock_125 0 rfl rfl (by decide) rfl rfl ?_
                            refine x_goto C (tgt := 83) dX12_flock_128 (by decide) ?_
                            refine x_lv (lv1 := [(8, .int (nI (k + 1) + 1)), (7, .int (nI (sc (fh d) h k))), (6, .int (nI h)), (5, .int (nI (d + 1))), (4, .int ht), (0, .ref mm), (1, .int (nI a)), (2, .int (nI nn)), (3, .int wh)]) [0, 1, 2, 3, 4, 5, 6, 7, 8] rfl ?_
                            have b1 := fh_le d (h + (k + 1)) (by omega)
                            have b2 := fh_le d (h + sc (fh d) h k) (by omega)
                            have es : sc (fh d) h (k + 1) = sc (fh d) h k := by rw [sc, if_neg (Nat.not_lt.mpr (nI_le' c53 (by rw [fv]; omega) (by rw [fv]; omega)))]
                            have q3 := ih3 (k + 1) hk1 (by omega)
                            rw [es] at q3
                            rw [nI_1]
                            exact q3
                          · skip
                            refine x_iload C dX12_flock_121 0 rfl rfl ?_
                            refine x_istore C (lv' := [(7, .int (nI (k + 1))), (8, .int (nI (k + 1))), (6, .int (nI h)), (5, .int (nI (d + 1))), (4, .int ht), (0, .ref mm), (1, .int (nI a)), (2, .int (nI nn)), (3, .int wh)]) dX12_flock_123 (by decide) rfl rfl ?_
                            refine x_iinc C (v := ((nI (k + 1)) + 1)) (lv' := [(8, .int ((nI (k + 1)) + 1)), (7, .int (nI (k + 1))), (6, .int (nI h)), (5, .int (nI (d + 1))), (4, .int ht), (0, .ref mm), (1, .int (nI a)), (2, .int (nI nn)), (3, .int wh)]) dX12_flock_125 1 rfl rfl (by decide) rfl rfl ?_
                            refine x_goto C (tgt := 83) dX12_flock_128 (by decide) ?_
                            refine x_lv (lv1 := [(8, .int (nI (k + 1) + 1)), (7, .int (nI (k + 1))), (6, .int (nI h)), (5, .int (nI (d + 1))), (4, .int ht), (0, .ref mm), (1, .int (nI a)), (2, .int (nI nn)), (3, .int wh)]) [0, 1, 2, 3, 4, 5, 6, 7, 8] rfl ?_
                            have b1 := fh_le d (h + (k + 1)) (by omega)
                            have b2 := fh_le d (h + sc (fh d) h k) (by omega)
                            have es : sc (fh d) h (k + 1) = k + 1 := by rw [sc, if_pos (nI_nle' c53 (by rw [fv]; omega) (by rw [fv]; omega))]
                            have q3 := ih3 (k + 1) hk1 (by omega)
                            rw [es] at q3
                            rw [nI_1]
                            exact q3
                    refine x_lv (lv1 := [(8, .int 1), (7, .int 0), (6, .int (nI h)), (5, .int (nI (d + 1))), (4, .int ht), (0, .ref mm), (1, .int (nI a)), (2, .int (nI nn)), (3, .int wh)]) [0, 1, 2, 3, 4, 5, 6, 7, 8] rfl ?_
                    exact xl (mn h + 1) 0 (Nat.zero_le _) (by omega)
              refine x_lv (lv1 := [(6, .int 1), (5, .int (nI (d + 1))), (4, .int ht), (0, .ref mm), (1, .int (nI a)), (2, .int (nI nn)), (3, .int wh)]) [0, 1, 2, 3, 4, 5, 6] rfl ?_
              exact inner 21 1 wl f ht (by decide) (by decide) (by decide) z0 z1 hf (fun j q1 q2 => absurd q2 (by omega)) (fun q => absurd q (by omega))
        refine x_lv (lv1 := [(5, .int 1), (4, .int 0), (0, .ref mm), (1, .int (nI a)), (2, .int (nI nn)), (3, .int wh)]) [0, 1, 2, 3, 4, 5] rfl ?_
        exact loop (nn + 1) 0 ws (fun _ => 0) 0 (Nat.zero_le _) (by omega) k_0 k_1 (fun _ _ _ => nI_0.symm) (fun h => absurd h (by decide))
      · skip
        have b54 := bI_e0 c22
        refine x_iconst C (v := (-1)) dX12_flock_29 (by decide) rfl ?_
        exact x_zret C hr hlk rfl dX12_flock_30 (by rw [flk, if_neg (fun q => by simp [b8, b16, b54] at q)])
