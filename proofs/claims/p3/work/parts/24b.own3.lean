theorem dX11_plan_0 : decode cX11_plan 0 = .ok (.aload_n 0, 1) := by decide +kernel
theorem dX11_plan_1 : decode cX11_plan 1 = .ok (.getfield 22, 3) := by decide +kernel
theorem dX11_plan_4 : decode cX11_plan 4 = .ok (.getfield 123, 3) := by decide +kernel
theorem dX11_plan_7 : decode cX11_plan 7 = .ok (.getfield 280, 3) := by decide +kernel
theorem dX11_plan_10 : decode cX11_plan 10 = .ok (.istore 4, 2) := by decide +kernel
theorem dX11_plan_12 : decode cX11_plan 12 = .ok (.iload_n 2, 1) := by decide +kernel
theorem dX11_plan_13 : decode cX11_plan 13 = .ok (.iconst 1, 1) := by decide +kernel
theorem dX11_plan_14 : decode cX11_plan 14 = .ok (.sipush 255, 3) := by decide +kernel
theorem dX11_plan_17 : decode cX11_plan 17 = .ok (.invokestatic 102, 3) := by decide +kernel
theorem dX11_plan_20 : decode cX11_plan 20 = .ok (.ifCond .eq 10, 3) := by decide +kernel
theorem dX11_plan_23 : decode cX11_plan 23 = .ok (.iload_n 2, 1) := by decide +kernel
theorem dX11_plan_24 : decode cX11_plan 24 = .ok (.invokestatic 281, 3) := by decide +kernel
theorem dX11_plan_27 : decode cX11_plan 27 = .ok (.goto 4, 3) := by decide +kernel
theorem dX11_plan_30 : decode cX11_plan 30 = .ok (.iconst 0, 1) := by decide +kernel
theorem dX11_plan_31 : decode cX11_plan 31 = .ok (.istore 5, 2) := by decide +kernel
theorem dX11_plan_33 : decode cX11_plan 33 = .ok (.iload_n 3, 1) := by decide +kernel
theorem dX11_plan_34 : decode cX11_plan 34 = .ok (.bipush 10, 2) := by decide +kernel
theorem dX11_plan_36 : decode cX11_plan 36 = .ok (.bipush 17, 2) := by decide +kernel
theorem dX11_plan_38 : decode cX11_plan 38 = .ok (.invokestatic 102, 3) := by decide +kernel
theorem dX11_plan_41 : decode cX11_plan 41 = .ok (.ifCond .eq 18, 3) := by decide +kernel
theorem dX11_plan_44 : decode cX11_plan 44 = .ok (.iload_n 2, 1) := by decide +kernel
theorem dX11_plan_45 : decode cX11_plan 45 = .ok (.iload_n 3, 1) := by decide +kernel
theorem dX11_plan_46 : decode cX11_plan 46 = .ok (.bipush 10, 2) := by decide +kernel
theorem dX11_plan_48 : decode cX11_plan 48 = .ok (.isub, 1) := by decide +kernel
theorem dX11_plan_49 : decode cX11_plan 49 = .ok (.invokestatic 286, 3) := by decide +kernel
theorem dX11_plan_52 : decode cX11_plan 52 = .ok (.ifCond .eq 7, 3) := by decide +kernel
theorem dX11_plan_55 : decode cX11_plan 55 = .ok (.iconst 1, 1) := by decide +kernel
theorem dX11_plan_56 : decode cX11_plan 56 = .ok (.goto 4, 3) := by decide +kernel
theorem dX11_plan_59 : decode cX11_plan 59 = .ok (.iconst 0, 1) := by decide +kernel
theorem dX11_plan_60 : decode cX11_plan 60 = .ok (.istore 6, 2) := by decide +kernel
theorem dX11_plan_62 : decode cX11_plan 62 = .ok (.aload_n 0, 1) := by decide +kernel
theorem dX11_plan_63 : decode cX11_plan 63 = .ok (.getfield 22, 3) := by decide +kernel
theorem dX11_plan_66 : decode cX11_plan 66 = .ok (.getfield 92, 3) := by decide +kernel
theorem dX11_plan_69 : decode cX11_plan 69 = .ok (.iload_n 1, 1) := by decide +kernel
theorem dX11_plan_70 : decode cX11_plan 70 = .ok (.invokevirtual 106, 3) := by decide +kernel
theorem dX11_plan_73 : decode cX11_plan 73 = .ok (.ifCond .eq 36, 3) := by decide +kernel
theorem dX11_plan_76 : decode cX11_plan 76 = .ok (.iload 5, 2) := by decide +kernel
theorem dX11_plan_78 : decode cX11_plan 78 = .ok (.iconst 1, 1) := by decide +kernel
theorem dX11_plan_79 : decode cX11_plan 79 = .ok (.iconst 4, 1) := by decide +kernel
theorem dX11_plan_80 : decode cX11_plan 80 = .ok (.invokestatic 102, 3) := by decide +kernel
theorem dX11_plan_83 : decode cX11_plan 83 = .ok (.ifCond .eq 26, 3) := by decide +kernel
theorem dX11_plan_86 : decode cX11_plan 86 = .ok (.iload_n 2, 1) := by decide +kernel
theorem dX11_plan_87 : decode cX11_plan 87 = .ok (.iload 4, 2) := by decide +kernel
theorem dX11_plan_89 : decode cX11_plan 89 = .ok (.iconst (-1), 1) := by decide +kernel
theorem dX11_plan_90 : decode cX11_plan 90 = .ok (.ixor, 1) := by decide +kernel
theorem dX11_plan_91 : decode cX11_plan 91 = .ok (.iand, 1) := by decide +kernel
theorem dX11_plan_92 : decode cX11_plan 92 = .ok (.ifCond .ne 17, 3) := by decide +kernel
theorem dX11_plan_95 : decode cX11_plan 95 = .ok (.iload_n 3, 1) := by decide +kernel
theorem dX11_plan_96 : decode cX11_plan 96 = .ok (.iconst 0, 1) := by decide +kernel
theorem dX11_plan_97 : decode cX11_plan 97 = .ok (.iconst 1, 1) := by decide +kernel
theorem dX11_plan_98 : decode cX11_plan 98 = .ok (.invokestatic 102, 3) := by decide +kernel
theorem dX11_plan_101 : decode cX11_plan 101 = .ok (.ifCond .ne 10, 3) := by decide +kernel
theorem dX11_plan_104 : decode cX11_plan 104 = .ok (.iload 6, 2) := by decide +kernel
theorem dX11_plan_106 : decode cX11_plan 106 = .ok (.ifCond .ne 5, 3) := by decide +kernel
theorem dX11_plan_109 : decode cX11_plan 109 = .ok (.iconst (-1), 1) := by decide +kernel
theorem dX11_plan_110 : decode cX11_plan 110 = .ok (.ireturn, 1) := by decide +kernel
theorem dX11_plan_111 : decode cX11_plan 111 = .ok (.iconst 0, 1) := by decide +kernel
theorem dX11_plan_112 : decode cX11_plan 112 = .ok (.istore 7, 2) := by decide +kernel
theorem dX11_plan_114 : decode cX11_plan 114 = .ok (.iload 7, 2) := by decide +kernel
theorem dX11_plan_116 : decode cX11_plan 116 = .ok (.bipush 8, 2) := by decide +kernel
theorem dX11_plan_118 : decode cX11_plan 118 = .ok (.if_icmp .ge 36, 3) := by decide +kernel
theorem dX11_plan_121 : decode cX11_plan 121 = .ok (.iload_n 2, 1) := by decide +kernel
theorem dX11_plan_122 : decode cX11_plan 122 = .ok (.iload 7, 2) := by decide +kernel
theorem dX11_plan_124 : decode cX11_plan 124 = .ok (.invokestatic 286, 3) := by decide +kernel
theorem dX11_plan_127 : decode cX11_plan 127 = .ok (.ifCond .eq 21, 3) := by decide +kernel
theorem dX11_plan_130 : decode cX11_plan 130 = .ok (.aload_n 0, 1) := by decide +kernel
theorem dX11_plan_131 : decode cX11_plan 131 = .ok (.getfield 22, 3) := by decide +kernel
theorem dX11_plan_134 : decode cX11_plan 134 = .ok (.getfield 123, 3) := by decide +kernel
theorem dX11_plan_137 : decode cX11_plan 137 = .ok (.iload 7, 2) := by decide +kernel
theorem dX11_plan_139 : decode cX11_plan 139 = .ok (.invokevirtual 270, 3) := by decide +kernel
theorem dX11_plan_142 : decode cX11_plan 142 = .ok (.ifCond .eq 6, 3) := by decide +kernel
theorem dX11_plan_145 : decode cX11_plan 145 = .ok (.bipush (-2), 2) := by decide +kernel
theorem dX11_plan_147 : decode cX11_plan 147 = .ok (.ireturn, 1) := by decide +kernel
theorem dX11_plan_148 : decode cX11_plan 148 = .ok (.iinc 7 1, 3) := by decide +kernel
theorem dX11_plan_151 : decode cX11_plan 151 = .ok (.goto (-37), 3) := by decide +kernel
theorem dX11_plan_154 : decode cX11_plan 154 = .ok (.aload_n 0, 1) := by decide +kernel
theorem dX11_plan_155 : decode cX11_plan 155 = .ok (.getfield 56, 3) := by decide +kernel
theorem dX11_plan_158 : decode cX11_plan 158 = .ok (.aload_n 0, 1) := by decide +kernel
theorem dX11_plan_159 : decode cX11_plan 159 = .ok (.getfield 22, 3) := by decide +kernel
theorem dX11_plan_162 : decode cX11_plan 162 = .ok (.aload_n 0, 1) := by decide +kernel
theorem dX11_plan_163 : decode cX11_plan 163 = .ok (.getfield 39, 3) := by decide +kernel
theorem dX11_plan_166 : decode cX11_plan 166 = .ok (.iload_n 1, 1) := by decide +kernel
theorem dX11_plan_167 : decode cX11_plan 167 = .ok (.iload_n 2, 1) := by decide +kernel
theorem dX11_plan_168 : decode cX11_plan 168 = .ok (.invokevirtual 289, 3) := by decide +kernel
theorem dX11_plan_171 : decode cX11_plan 171 = .ok (.iload_n 3, 1) := by decide +kernel
theorem dX11_plan_172 : decode cX11_plan 172 = .ok (.ifCond .ne 11, 3) := by decide +kernel
theorem dX11_plan_175 : decode cX11_plan 175 = .ok (.aload_n 0, 1) := by decide +kernel
theorem dX11_plan_176 : decode cX11_plan 176 = .ok (.getfield 56, 3) := by decide +kernel
theorem dX11_plan_179 : decode cX11_plan 179 = .ok (.invokevirtual 293, 3) := by decide +kernel
theorem dX11_plan_182 : decode cX11_plan 182 = .ok (.ireturn, 1) := by decide +kernel
theorem dX11_plan_183 : decode cX11_plan 183 = .ok (.iload_n 3, 1) := by decide +kernel
theorem dX11_plan_184 : decode cX11_plan 184 = .ok (.iconst 1, 1) := by decide +kernel
theorem dX11_plan_185 : decode cX11_plan 185 = .ok (.if_icmp .ne 13, 3) := by decide +kernel
theorem dX11_plan_188 : decode cX11_plan 188 = .ok (.aload_n 0, 1) := by decide +kernel
theorem dX11_plan_189 : decode cX11_plan 189 = .ok (.getfield 56, 3) := by decide +kernel
theorem dX11_plan_192 : decode cX11_plan 192 = .ok (.invokevirtual 296, 3) := by decide +kernel
theorem dX11_plan_195 : decode cX11_plan 195 = .ok (.goto 14, 3) := by decide +kernel
theorem dX11_plan_198 : decode cX11_plan 198 = .ok (.aload_n 0, 1) := by decide +kernel
theorem dX11_plan_199 : decode cX11_plan 199 = .ok (.getfield 56, 3) := by decide +kernel
theorem dX11_plan_202 : decode cX11_plan 202 = .ok (.iload_n 3, 1) := by decide +kernel
theorem dX11_plan_203 : decode cX11_plan 203 = .ok (.bipush 10, 2) := by decide +kernel
theorem dX11_plan_205 : decode cX11_plan 205 = .ok (.isub, 1) := by decide +kernel
theorem dX11_plan_206 : decode cX11_plan 206 = .ok (.invokevirtual 299, 3) := by decide +kernel
theorem dX11_plan_209 : decode cX11_plan 209 = .ok (.ireturn, 1) := by decide +kernel
set_option maxRecDepth 20000 in
set_option maxHeartbeats 4000000 in
theorem c_plan (E : xE) (l : Launch) (a : Nat → Nat) (ws : va_W) (hW : WX (okX E a) ws) (p0 : Int32) (p1 : Int32) (p2 : Int32) : xI E l yX11_plan cX11_plan 8 (some .int) 8 [.ref (a 0), .int p0, .int p1, .int p2] ws (fun r w => WX (okX E a) w ∧ keeps ws w (fun q => ¬ (q = 0 ∨ q = 6 ∨ q = 9 ∨ q = 28 ∨ q = 31))) := by
  refine xI_start (lv := [(0, .ref (a 0)), (1, .int p0), (2, .int p1), (3, .int p2)]) RX11 (by decide) rfl (Nat.le_of_ble_eq_true rfl) rfl (fun p e s m below meth c A C hr hlk => ?_)
  have kp0 : keeps ws ws (fun q => ¬ (q = 0 ∨ q = 6 ∨ q = 9 ∨ q = 28 ∨ q = 31)) := keeps_rf
  refine x_aload_n C dX11_plan_0 rfl 0 rfl rfl ?_
  obtain ⟨_, k1, v2, rfl⟩ := hW 0 _ rfl
  refine x_get C (ci := 10) (k := 2) 0 k1 rfl in_X11 (by decide) w_387 rfl dX11_plan_1 rfl ?_
  obtain ⟨_, k3, n4, v6, v7, v8, v9, v10, bn5, rfl⟩ := hW 5 _ rfl
  refine x_get C (ci := 8) (k := 5) 5 k3 rfl in_X9 (by decide) w_213 rfl dX11_plan_4 rfl ?_
  obtain ⟨_, k11, v12, rfl⟩ := hW 21 _ rfl
  refine x_get C (ci := 9) (k := 0) 21 k11 rfl in_X10 (by decide) w_169 rfl dX11_plan_7 rfl ?_
  refine x_istore C (lv' := [(4, .int v12), (0, .ref (a 0)), (1, .int p0), (2, .int p1), (3, .int p2)]) dX11_plan_10 (by decide) rfl rfl ?_
  refine x_iload_n C dX11_plan_12 rfl 3 rfl rfl ?_
  refine x_iconst C (v := 1) dX11_plan_13 (by decide) rfl ?_
  refine x_sipush C (v := 255) dX11_plan_14 (by decide) rfl ?_
  refine x_si C (As := [.int p1, .int 1, .int 255]) (rest := []) (c_isWithin E l a ws hW p1 (1 : Int32) (255 : Int32)) mf_X11_isWithin w_462 rfl rfl (Nat.le_of_ble_eq_true rfl) ⟨(Nat.le_of_ble_eq_true rfl), (Nat.le_of_ble_eq_true rfl)⟩ ⟨(Nat.le_of_ble_eq_true rfl), (Nat.le_of_ble_eq_true rfl)⟩ dX11_plan_17 rfl (fun r14 w15 h13 => ?_)
  obtain ⟨hW16, zb17, x18⟩ := h13
  refine x_ws hW16 ?_
  refine x_if_eq C (tgt := 30) dX11_plan_20 (by decide) rfl (fun c19 => ?_) (fun c19 => ?_)
  · skip
    refine x_iconst C (v := 0) dX11_plan_30 (by decide) rfl ?_
    refine x_istore C (lv' := [(5, .int 0), (4, .int v12), (0, .ref (a 0)), (1, .int p0), (2, .int p1), (3, .int p2)]) dX11_plan_31 (by decide) rfl rfl ?_
    refine x_iload_n C dX11_plan_33 rfl 5 rfl rfl ?_
    refine x_bipush C (v := 10) dX11_plan_34 (by decide) rfl ?_
    refine x_bipush C (v := 17) dX11_plan_36 (by decide) rfl ?_
    refine x_si C (As := [.int p2, .int 10, .int 17]) (rest := []) (c_isWithin E l a ws hW p2 (10 : Int32) (17 : Int32)) mf_X11_isWithin w_462 rfl rfl (Nat.le_of_ble_eq_true rfl) ⟨(Nat.le_of_ble_eq_true rfl), (Nat.le_of_ble_eq_true rfl)⟩ ⟨(Nat.le_of_ble_eq_true rfl), (Nat.le_of_ble_eq_true rfl)⟩ dX11_plan_38 rfl (fun r21 w22 h20 => ?_)
    obtain ⟨hW23, zb24, x25⟩ := h20
    refine x_ws hW23 ?_
    refine x_if_eq C (tgt := 59) dX11_plan_41 (by decide) rfl (fun c26 => ?_) (fun c26 => ?_)
    · skip
      refine x_iconst C (v := 0) dX11_plan_59 (by decide) rfl ?_
      refine x_istore C (lv' := [(6, .int 0), (5, .int 0), (4, .int v12), (0, .ref (a 0)), (1, .int p0), (2, .int p1), (3, .int p2)]) dX11_plan_60 (by decide) rfl rfl ?_
      refine x_aload_n C dX11_plan_62 rfl 3 rfl rfl ?_
      refine x_get C (ci := 10) (k := 2) 0 k1 rfl in_X11 (by decide) w_387 rfl dX11_plan_63 rfl ?_
      refine x_get C (ci := 8) (k := 3) 5 k3 rfl in_X9 (by decide) w_204 rfl dX11_plan_66 rfl ?_
      refine x_iload_n C dX11_plan_69 rfl 4 rfl rfl ?_
      obtain ⟨_, k27, v28, rfl⟩ := hW 9 _ rfl
      refine x_vi C (As := [.int p0]) (rest := []) (c_People_isTold E l a ws hW 5 (Or.inl rfl) p0) mf_X5_isTold w_465 9 k27 rfl rfl rfl (Nat.le_of_ble_eq_true rfl) ⟨(Nat.le_of_ble_eq_true rfl), (Nat.le_of_ble_eq_true rfl)⟩ ⟨(Nat.le_of_ble_eq_true rfl), (Nat.le_of_ble_eq_true rfl)⟩ dX11_plan_70 rfl (fun r30 w31 h29 => ?_)
      obtain ⟨hW32, zb33, x34⟩ := h29
      refine x_ws hW32 ?_
      refine x_if_eq C (tgt := 109) dX11_plan_73 (by decide) rfl (fun c35 => ?_) (fun c35 => ?_)
      · skip
        refine x_iconst C (v := (-1)) dX11_plan_109 (by decide) rfl ?_
        exact x_zret C hr hlk rfl dX11_plan_110 ⟨hW, kp0⟩
      · skip
        obtain ⟨j36, hl37, hh38, ej39⟩ := w_nat (a := 0) (b := 7) (by decide) (by decide) (x34 c35)
        subst ej39
        refine x_iload C dX11_plan_76 1 rfl rfl ?_
        refine x_iconst C (v := 1) dX11_plan_78 (by decide) rfl ?_
        refine x_iconst C (v := 4) dX11_plan_79 (by decide) rfl ?_
        refine x_si C (As := [.int 0, .int 1, .int 4]) (rest := []) (c_isWithin E l a ws hW (0 : Int32) (1 : Int32) (4 : Int32)) mf_X11_isWithin w_462 rfl rfl (Nat.le_of_ble_eq_true rfl) ⟨(Nat.le_of_ble_eq_true rfl), (Nat.le_of_ble_eq_true rfl)⟩ ⟨(Nat.le_of_ble_eq_true rfl), (Nat.le_of_ble_eq_true rfl)⟩ dX11_plan_80 rfl (fun r41 w42 h40 => ?_)
        obtain ⟨hW43, zb44, x45⟩ := h40
        refine x_ws hW43 ?_
        refine x_if_eq C (tgt := 109) dX11_plan_83 (by decide) rfl (fun c46 => ?_) (fun c46 => ?_)
        · skip
          refine x_iconst C (v := (-1)) dX11_plan_109 (by decide) rfl ?_
          exact x_zret C hr hlk rfl dX11_plan_110 ⟨hW, kp0⟩
        · skip
          have wi47 := x45 c46
          refine x_iload_n C dX11_plan_86 rfl 5 rfl rfl ?_
          refine x_iload C dX11_plan_87 2 rfl rfl ?_
          refine x_iconst C (v := (-1)) dX11_plan_89 (by decide) rfl ?_
          refine x_ixor C (v := (v12 ^^^ ((-1) : Int32))) dX11_plan_90 rfl rfl ?_
          refine x_any (fun v48 => ?_)
          refine x_iand C (v := (p1 &&& v48)) dX11_plan_91 rfl rfl ?_
          refine x_any (fun v49 => ?_)
          refine x_if_ne C (tgt := 109) dX11_plan_92 (by decide) rfl (fun c50 => ?_) (fun c50 => ?_)
          · skip
            refine x_iconst C (v := (-1)) dX11_plan_109 (by decide) rfl ?_
            exact x_zret C hr hlk rfl dX11_plan_110 ⟨hW, kp0⟩
          · skip
            refine x_iload_n C dX11_plan_95 rfl 6 rfl rfl ?_
            refine x_iconst C (v := 0) dX11_plan_96 (by decide) rfl ?_
            refine x_iconst C (v := 1) dX11_plan_97 (by decide) rfl ?_
            refine x_si C (As := [.int p2, .int 0, .int 1]) (rest := []) (c_isWithin E l a ws hW p2 (0 : Int32) (1 : Int32)) mf_X11_isWithin w_462 rfl rfl (Nat.le_of_ble_eq_true rfl) ⟨(Nat.le_of_ble_eq_true rfl), (Nat.le_of_ble_eq_true rfl)⟩ ⟨(Nat.le_of_ble_eq_true rfl), (Nat.le_of_ble_eq_true rfl)⟩ dX11_plan_98 rfl (fun r52 w53 h51 => ?_)
            obtain ⟨hW54, zb55, x56⟩ := h51
            refine x_ws hW54 ?_
            refine x_if_ne C (tgt := 111) dX11_plan_101 (by decide) rfl (fun c57 => ?_) (fun c57 => ?_)
            · skip
              obtain ⟨j58, hl59, hh60, ej61⟩ := w_nat (a := 0) (b := 1) (by decide) (by decide) (x56 c57)
              subst ej61
              refine x_iconst C (v := 0) dX11_plan_111 (by decide) rfl ?_
              refine x_istore C (lv' := [(7, .int 0), (6, .int 0), (5, .int 0), (4, .int v12), (0, .ref (a 0)), (1, .int (nI j36)), (2, .int p1), (3, .int (nI j58))]) dX11_plan_112 (by decide) rfl rfl ?_
              have loop114 : ∀ (fu114 : Nat) (i : Nat), True → 8 - i < fu114 → i ≤ 8 → X E p l e (xRm 8 0 0) s m ([.ref (a 0), .int (nI j36), .int p1, .int (nI j58)] : List Value).toArray below meth c A 8 0 0 (MQ below (va_Qi (fun r w => WX (okX E a) w ∧ keeps ws w (fun q => ¬ (q = 0 ∨ q = 6 ∨ q = 9 ∨ q = 28 ∨ q = 31))) (xB E A) A) ([.ref (a 0), .int (nI j36), .int p1, .int (nI j58)] : List Value).toArray s 0 0 A) ws 114 [(0, .ref (a 0)), (1, .int (nI j36)), (2, .int p1), (3, .int (nI j58)), (4, .int v12), (5, .int 0), (6, .int 0), (7, .int (nI i))] [] := by
                intro fu114
                induction fu114 with
                | zero => intro i _ q; omega
                | succ fu114 ih114 =>
                  intro i _ me114 iv114_0
                  refine x_iload C dX11_plan_114 7 rfl rfl ?_
                  refine x_bipush C (v := 8) dX11_plan_116 (by decide) rfl ?_
                  refine x_icmp_ge C (tgt := 154) dX11_plan_118 (by decide) rfl (fun c62 => ?_) (fun c62 => ?_)
                  · skip
                    have nf63 := nI_le' (a := 8) (b := i) c62 (by omega) (by omega)
                    refine x_aload_n C dX11_plan_154 rfl 0 rfl rfl ?_
                    refine x_get C (ci := 10) (k := 9) 0 k1 rfl in_X11 (by decide) w_394 rfl dX11_plan_155 rfl ?_
                    refine x_aload_n C dX11_plan_158 rfl 0 rfl rfl ?_
                    refine x_get C (ci := 10) (k := 2) 0 k1 rfl in_X11 (by decide) w_387 rfl dX11_plan_159 rfl ?_
                    refine x_aload_n C dX11_plan_162 rfl 0 rfl rfl ?_
                    refine x_get C (ci := 10) (k := 6) 0 k1 rfl in_X11 (by decide) w_391 rfl dX11_plan_163 rfl ?_
                    refine x_iload_n C dX11_plan_166 rfl 1 rfl rfl ?_
                    refine x_iload_n C dX11_plan_167 rfl 2 rfl rfl ?_
                    obtain ⟨_, k64, n65, n67, v69, bn66, bn68, rfl⟩ := hW 92 _ rfl
                    refine x_vv C (As := [.ref (a 5), .ref (a 71), .int (nI j36), .int p1]) (rest := []) (c_planFind E l a ws hW 5 (Or.inl rfl) ((nI j36)) p1) mf_X6_find w_910 92 k64 rfl rfl rfl (Nat.le_of_ble_eq_true rfl) ⟨(Nat.le_of_ble_eq_true rfl), (Nat.le_of_ble_eq_true rfl)⟩ ⟨(Nat.le_of_ble_eq_true rfl), (Nat.le_of_ble_eq_true rfl)⟩ dX11_plan_168 rfl (fun w72 h70 => ?_)
                    obtain ⟨hW73, kq74⟩ := h70
                    have k75 : w72[0]? = some (ob (a 0) 10 [.ref (a 1), .ref (a 3), .ref (a 5), .ref (a 27), .ref (a 49), .int v2, .ref (a 71), .ref (a 79), .ref (a 87), .ref (a 92), .ref (a 103), .ref (a 105), .ref (a 106), .ref (a 107), .ref (a 108), .ref (a 109), .ref (a 110), .ref (a 111), .ref (a 112)]) := keeps_at kq74 k1 (by first | decide | omega | (dsimp only; omega))
                    have k76 : w72[5]? = some (ob (a 5) 8 [.int (nI n4), .int v6, .ref (a 6), .ref (a 9), .ref (a 14), .ref (a 21), .int v7, .int v8, .int v9, .int v10]) := keeps_at kq74 k3 (by first | decide | omega | (dsimp only; omega))
                    have k77 : w72[21]? = some (ob (a 21) 9 [.int v12, .ref (a 22), .ref (a 23), .ref (a 24), .ref (a 25), .ref (a 26)]) := keeps_at kq74 k11 (by first | decide | omega | (dsimp only; omega))
                    have k78 : w72[9]? = some (ob (a 9) 4 [.int v28, .ref (a 10), .ref (a 11), .ref (a 12), .ref (a 13)]) := keeps_at kq74 k27 (by first | decide | omega | (dsimp only; omega))
                    have kp79 := keeps_tr kp0 kq74 (fun q hq => by first | omega | (dsimp only at *; omega))
                    refine x_iload_n C dX11_plan_171 rfl 3 rfl rfl ?_
                    refine x_if_ne C (tgt := 183) dX11_plan_172 (by decide) rfl (fun c80 => ?_) (fun c80 => ?_)
                    · skip
                      have nf81 : ¬ j58 = 0 := fun q => c80 (congrArg nI q)
                      refine x_iload_n C dX11_plan_183 rfl 3 rfl rfl ?_
                      refine x_iconst C (v := 1) dX11_plan_184 (by decide) rfl ?_
                      refine x_icmp_ne C (tgt := 198) dX11_plan_185 (by decide) rfl (fun c82 => ?_) (fun c82 => ?_)
                      · skip
                        have nf83 : ¬ j58 = 1 := fun q => c82 (congrArg nI q)
                        refine x_aload_n C dX11_plan_198 rfl 0 rfl rfl ?_
                        refine x_get C (ci := 10) (k := 9) 0 k75 rfl in_X11 (by decide) w_394 rfl dX11_plan_199 rfl ?_
                        refine x_iload_n C dX11_plan_202 rfl 3 rfl rfl ?_
                        refine x_bipush C (v := 10) dX11_plan_203 (by decide) rfl ?_
                        refine x_isub C (v := ((nI j58) - (10 : Int32))) dX11_plan_205 rfl rfl ?_
                        refine x_any (fun v84 => ?_)
                        obtain ⟨_, k85, n86, n88, v90, bn87, bn89, rfl⟩ := hW73 92 _ rfl
                        refine x_vi C (As := [.int v84]) (rest := []) (c_rowOf E l a w72 hW73 v84) mf_X6_rowOf w_950 92 k85 rfl rfl rfl (Nat.le_of_ble_eq_true rfl) ⟨(Nat.le_of_ble_eq_true rfl), (Nat.le_of_ble_eq_true rfl)⟩ ⟨(Nat.le_of_ble_eq_true rfl), (Nat.le_of_ble_eq_true rfl)⟩ dX11_plan_206 rfl (fun r92 w93 h91 => ?_)
                        have hW94 := h91
                        refine x_ws hW94 ?_
                        exact x_zret C hr hlk rfl dX11_plan_209 ⟨hW73, kp79⟩
                      · skip
                        have nf95 : j58 = 1 := (nI_eq (by omega) (by omega)).mp c82
                        refine x_aload_n C dX11_plan_188 rfl 0 rfl rfl ?_
                        refine x_get C (ci := 10) (k := 9) 0 k75 rfl in_X11 (by decide) w_394 rfl dX11_plan_189 rfl ?_
                        obtain ⟨_, k96, n97, n99, v101, bn98, bn100, rfl⟩ := hW73 92 _ rfl
                        refine x_vi C (As := []) (rest := []) (c_bestEggs E l a w72 hW73) mf_X6_bestEggs w_945 92 k96 rfl rfl rfl (Nat.le_of_ble_eq_true rfl) ⟨(Nat.le_of_ble_eq_true rfl), (Nat.le_of_ble_eq_true rfl)⟩ ⟨(Nat.le_of_ble_eq_true rfl), (Nat.le_of_ble_eq_true rfl)⟩ dX11_plan_192 rfl (fun r103 w104 h102 => ?_)
                        have hW105 := h102
                        refine x_ws hW105 ?_
                        refine x_goto C (tgt := 209) dX11_plan_195 (by decide) ?_
                        exact x_zret C hr hlk rfl dX11_plan_209 ⟨hW73, kp79⟩
                    · skip
                      have nf106 : j58 = 0 := (nI_eq (by omega) (by omega)).mp c80
                      refine x_aload_n C dX11_plan_175 rfl 0 rfl rfl ?_
                      refine x_get C (ci := 10) (k := 9) 0 k75 rfl in_X11 (by decide) w_394 rfl dX11_plan_176 rfl ?_
                      obtain ⟨_, k107, n108, n110, v112, bn109, bn111, rfl⟩ := hW73 92 _ rfl
                      refine x_vi C (As := []) (rest := []) (c_bestWorth E l a w72 hW73) mf_X6_bestWorth w_941 92 k107 rfl rfl rfl (Nat.le_of_ble_eq_true rfl) ⟨(Nat.le_of_ble_eq_true rfl), (Nat.le_of_ble_eq_true rfl)⟩ ⟨(Nat.le_of_ble_eq_true rfl), (Nat.le_of_ble_eq_true rfl)⟩ dX11_plan_179 rfl (fun r114 w115 h113 => ?_)
                      have hW116 := h113
                      refine x_ws hW116 ?_
                      exact x_zret C hr hlk rfl dX11_plan_182 ⟨hW73, kp79⟩
                  · skip
                    have nf117 := nI_nle' (a := 8) (b := i) c62 (by omega) (by omega)
                    refine x_iload_n C dX11_plan_121 rfl 2 rfl rfl ?_
                    refine x_iload C dX11_plan_122 7 rfl rfl ?_
                    refine x_si C (As := [.int p1, .int (nI i)]) (rest := []) (c_isIn E l a ws hW p1 ((nI i))) mf_X11_isIn w_909 rfl rfl (Nat.le_of_ble_eq_true rfl) ⟨(Nat.le_of_ble_eq_true rfl), (Nat.le_of_ble_eq_true rfl)⟩ ⟨(Nat.le_of_ble_eq_true rfl), (Nat.le_of_ble_eq_true rfl)⟩ dX11_plan_124 rfl (fun r119 w120 h118 => ?_)
                    obtain ⟨hW121, zb122, x123⟩ := h118
                    refine x_ws hW121 ?_
                    refine x_if_eq C (tgt := 148) dX11_plan_127 (by decide) rfl (fun c124 => ?_) (fun c124 => ?_)
                    · skip
                      refine x_iinc C (v := (nI (i + 1))) (lv' := [(7, .int (nI (i + 1))), (0, .ref (a 0)), (1, .int (nI j36)), (2, .int p1), (3, .int (nI j58)), (4, .int v12), (5, .int 0), (6, .int 0)]) dX11_plan_148 7 rfl (nI_add i 1) (by decide) rfl rfl ?_
                      refine x_goto C (tgt := 114) dX11_plan_151 (by decide) ?_
                      refine x_lv (lv1 := [(0, .ref (a 0)), (1, .int (nI j36)), (2, .int p1), (3, .int (nI j58)), (4, .int v12), (5, .int 0), (6, .int 0), (7, .int (nI (i + 1)))]) [1, 2, 3, 4, 5, 6, 7, 0] rfl ?_
                      exact ih114 (i + 1) trivial (by omega) (by omega)
                    · skip
                      have wi125 := wth_le (a := 0) (b := 7) (j := i) (x123 c124) (by omega) (by decide) (by decide)
                      refine x_aload_n C dX11_plan_130 rfl 0 rfl rfl ?_
                      refine x_get C (ci := 10) (k := 2) 0 k1 rfl in_X11 (by decide) w_387 rfl dX11_plan_131 rfl ?_
                      refine x_get C (ci := 8) (k := 5) 5 k3 rfl in_X9 (by decide) w_213 rfl dX11_plan_134 rfl ?_
                      refine x_iload C dX11_plan_137 7 rfl rfl ?_
                      refine x_vi C (As := [.int (nI i)]) (rest := []) (c_Works_isDone E l a ws hW 5 (Or.inl rfl) ((nI i))) mf_X10_isDone w_894 21 k11 rfl rfl rfl (Nat.le_of_ble_eq_true rfl) ⟨(Nat.le_of_ble_eq_true rfl), (Nat.le_of_ble_eq_true rfl)⟩ ⟨(Nat.le_of_ble_eq_true rfl), (Nat.le_of_ble_eq_true rfl)⟩ dX11_plan_139 rfl (fun r127 w128 h126 => ?_)
                      obtain ⟨hW129, zb130, x131⟩ := h126
                      refine x_ws hW129 ?_
                      refine x_if_eq C (tgt := 148) dX11_plan_142 (by decide) rfl (fun c132 => ?_) (fun c132 => ?_)
                      · skip
                        refine x_iinc C (v := (nI (i + 1))) (lv' := [(7, .int (nI (i + 1))), (0, .ref (a 0)), (1, .int (nI j36)), (2, .int p1), (3, .int (nI j58)), (4, .int v12), (5, .int 0), (6, .int 0)]) dX11_plan_148 7 rfl (nI_add i 1) (by decide) rfl rfl ?_
                        refine x_goto C (tgt := 114) dX11_plan_151 (by decide) ?_
                        refine x_lv (lv1 := [(0, .ref (a 0)), (1, .int (nI j36)), (2, .int p1), (3, .int (nI j58)), (4, .int v12), (5, .int 0), (6, .int 0), (7, .int (nI (i + 1)))]) [1, 2, 3, 4, 5, 6, 7, 0] rfl ?_
                        exact ih114 (i + 1) trivial (by omega) (by omega)
                      · skip
                        have wi133 := wth_le (a := 0) (b := 7) (j := i) (x131 c132) (by omega) (by decide) (by decide)
                        refine x_bipush C (v := (-2)) dX11_plan_145 (by decide) rfl ?_
                        exact x_zret C hr hlk rfl dX11_plan_147 ⟨hW, kp0⟩
              refine x_lv (lv1 := [(0, .ref (a 0)), (1, .int (nI j36)), (2, .int p1), (3, .int (nI j58)), (4, .int v12), (5, .int 0), (6, .int 0), (7, .int 0)]) [4, 5, 6, 7, 3, 2, 1, 0] rfl ?_
              exact loop114 _ 0 trivial (Nat.lt_succ_self _) (by omega)
            · skip
              refine x_iload C dX11_plan_104 0 rfl rfl ?_
              refine x_if_ne C (tgt := 111) dX11_plan_106 (by decide) rfl (fun h => absurd h (by decide)) (fun _ => ?_)
              refine x_iconst C (v := (-1)) dX11_plan_109 (by decide) rfl ?_
              exact x_zret C hr hlk rfl dX11_plan_110 ⟨hW, kp0⟩
    · skip
      obtain ⟨j134, hl135, hh136, ej137⟩ := w_nat (a := 10) (b := 17) (by decide) (by decide) (x25 c26)
      subst ej137
      refine x_iload_n C dX11_plan_44 rfl 4 rfl rfl ?_
      refine x_iload_n C dX11_plan_45 rfl 5 rfl rfl ?_
      refine x_bipush C (v := 10) dX11_plan_46 (by decide) rfl ?_
      refine x_isub C (v := ((nI j134) - (10 : Int32))) dX11_plan_48 rfl rfl ?_
      refine x_any (fun v138 => ?_)
      refine x_si C (As := [.int p1, .int v138]) (rest := []) (c_isIn E l a ws hW p1 v138) mf_X11_isIn w_909 rfl rfl (Nat.le_of_ble_eq_true rfl) ⟨(Nat.le_of_ble_eq_true rfl), (Nat.le_of_ble_eq_true rfl)⟩ ⟨(Nat.le_of_ble_eq_true rfl), (Nat.le_of_ble_eq_true rfl)⟩ dX11_plan_49 rfl (fun r140 w141 h139 => ?_)
      obtain ⟨hW142, zb143, x144⟩ := h139
      refine x_ws hW142 ?_
      refine x_if_eq C (tgt := 59) dX11_plan_52 (by decide) rfl (fun c145 => ?_) (fun c145 => ?_)
      · skip
        refine x_iconst C (v := 0) dX11_plan_59 (by decide) rfl ?_
        refine x_istore C (lv' := [(6, .int 0), (5, .int 0), (4, .int v12), (0, .ref (a 0)), (1, .int p0), (2, .int p1), (3, .int (nI j134))]) dX11_plan_60 (by decide) rfl rfl ?_
        refine x_aload_n C dX11_plan_62 rfl 3 rfl rfl ?_
        refine x_get C (ci := 10) (k := 2) 0 k1 rfl in_X11 (by decide) w_387 rfl dX11_plan_63 rfl ?_
        refine x_get C (ci := 8) (k := 3) 5 k3 rfl in_X9 (by decide) w_204 rfl dX11_plan_66 rfl ?_
        refine x_iload_n C dX11_plan_69 rfl 4 rfl rfl ?_
        obtain ⟨_, k146, v147, rfl⟩ := hW 9 _ rfl
        refine x_vi C (As := [.int p0]) (rest := []) (c_People_isTold E l a ws hW 5 (Or.inl rfl) p0) mf_X5_isTold w_465 9 k146 rfl rfl rfl (Nat.le_of_ble_eq_true rfl) ⟨(Nat.le_of_ble_eq_true rfl), (Nat.le_of_ble_eq_true rfl)⟩ ⟨(Nat.le_of_ble_eq_true rfl), (Nat.le_of_ble_eq_true rfl)⟩ dX11_plan_70 rfl (fun r149 w150 h148 => ?_)
        obtain ⟨hW151, zb152, x153⟩ := h148
        refine x_ws hW151 ?_
        refine x_if_eq C (tgt := 109) dX11_plan_73 (by decide) rfl (fun c154 => ?_) (fun c154 => ?_)
        · skip
          refine x_iconst C (v := (-1)) dX11_plan_109 (by decide) rfl ?_
          exact x_zret C hr hlk rfl dX11_plan_110 ⟨hW, kp0⟩
        · skip
          obtain ⟨j155, hl156, hh157, ej158⟩ := w_nat (a := 0) (b := 7) (by decide) (by decide) (x153 c154)
          subst ej158
          refine x_iload C dX11_plan_76 1 rfl rfl ?_
          refine x_iconst C (v := 1) dX11_plan_78 (by decide) rfl ?_
          refine x_iconst C (v := 4) dX11_plan_79 (by decide) rfl ?_
          refine x_si C (As := [.int 0, .int 1, .int 4]) (rest := []) (c_isWithin E l a ws hW (0 : Int32) (1 : Int32) (4 : Int32)) mf_X11_isWithin w_462 rfl rfl (Nat.le_of_ble_eq_true rfl) ⟨(Nat.le_of_ble_eq_true rfl), (Nat.le_of_ble_eq_true rfl)⟩ ⟨(Nat.le_of_ble_eq_true rfl), (Nat.le_of_ble_eq_true rfl)⟩ dX11_plan_80 rfl (fun r160 w161 h159 => ?_)
          obtain ⟨hW162, zb163, x164⟩ := h159
          refine x_ws hW162 ?_
          refine x_if_eq C (tgt := 109) dX11_plan_83 (by decide) rfl (fun c165 => ?_) (fun c165 => ?_)
          · skip
            refine x_iconst C (v := (-1)) dX11_plan_109 (by decide) rfl ?_
            exact x_zret C hr hlk rfl dX11_plan_110 ⟨hW, kp0⟩
          · skip
            have wi166 := x164 c165
            refine x_iload_n C dX11_plan_86 rfl 5 rfl rfl ?_
            refine x_iload C dX11_plan_87 2 rfl rfl ?_
            refine x_iconst C (v := (-1)) dX11_plan_89 (by decide) rfl ?_
            refine x_ixor C (v := (v12 ^^^ ((-1) : Int32))) dX11_plan_90 rfl rfl ?_
            refine x_any (fun v167 => ?_)
            refine x_iand C (v := (p1 &&& v167)) dX11_plan_91 rfl rfl ?_
            refine x_any (fun v168 => ?_)
            refine x_if_ne C (tgt := 109) dX11_plan_92 (by decide) rfl (fun c169 => ?_) (fun c169 => ?_)
            · skip
              refine x_iconst C (v := (-1)) dX11_plan_109 (by decide) rfl ?_
              exact x_zret C hr hlk rfl dX11_plan_110 ⟨hW, kp0⟩
            · skip
              refine x_iload_n C dX11_plan_95 rfl 6 rfl rfl ?_
              refine x_iconst C (v := 0) dX11_plan_96 (by decide) rfl ?_
              refine x_iconst C (v := 1) dX11_plan_97 (by decide) rfl ?_
              refine x_si C (As := [.int (nI j134), .int 0, .int 1]) (rest := []) (c_isWithin E l a ws hW ((nI j134)) (0 : Int32) (1 : Int32)) mf_X11_isWithin w_462 rfl rfl (Nat.le_of_ble_eq_true rfl) ⟨(Nat.le_of_ble_eq_true rfl), (Nat.le_of_ble_eq_true rfl)⟩ ⟨(Nat.le_of_ble_eq_true rfl), (Nat.le_of_ble_eq_true rfl)⟩ dX11_plan_98 rfl (fun r171 w172 h170 => ?_)
              obtain ⟨hW173, zb174, x175⟩ := h170
              refine x_ws hW173 ?_
              refine x_if_ne C (tgt := 111) dX11_plan_101 (by decide) rfl (fun c176 => ?_) (fun c176 => ?_)
              · skip
                have wi177 := x175 c176
                refine x_iconst C (v := 0) dX11_plan_111 (by decide) rfl ?_
                refine x_istore C (lv' := [(7, .int 0), (6, .int 0), (5, .int 0), (4, .int v12), (0, .ref (a 0)), (1, .int (nI j155)), (2, .int p1), (3, .int (nI j134))]) dX11_plan_112 (by decide) rfl rfl ?_
                have loop114 : ∀ (fu114 : Nat) (i : Nat), True → 8 - i < fu114 → i ≤ 8 → X E p l e (xRm 8 0 0) s m ([.ref (a 0), .int (nI j155), .int p1, .int (nI j134)] : List Value).toArray below meth c A 8 0 0 (MQ below (va_Qi (fun r w => WX (okX E a) w ∧ keeps ws w (fun q => ¬ (q = 0 ∨ q = 6 ∨ q = 9 ∨ q = 28 ∨ q = 31))) (xB E A) A) ([.ref (a 0), .int (nI j155), .int p1, .int (nI j134)] : List Value).toArray s 0 0 A) ws 114 [(0, .ref (a 0)), (1, .int (nI j155)), (2, .int p1), (3, .int (nI j134)), (4, .int v12), (5, .int 0), (6, .int 0), (7, .int (nI i))] [] := by
                  intro fu114
                  induction fu114 with
                  | zero => intro i _ q; omega
                  | succ fu114 ih114 =>
                    intro i _ me114 iv114_0
                    refine x_iload C dX11_plan_114 7 rfl rfl ?_
                    refine x_bipush C (v := 8) dX11_plan_116 (by decide) rfl ?_
                    refine x_icmp_ge C (tgt := 154) dX11_plan_118 (by decide) rfl (fun c178 => ?_) (fun c178 => ?_)
                    · skip
                      have nf179 := nI_le' (a := 8) (b := i) c178 (by omega) (by omega)
                      refine x_aload_n C dX11_plan_154 rfl 0 rfl rfl ?_
                      refine x_get C (ci := 10) (k := 9) 0 k1 rfl in_X11 (by decide) w_394 rfl dX11_plan_155 rfl ?_
                      refine x_aload_n C dX11_plan_158 rfl 0 rfl rfl ?_
                      refine x_get C (ci := 10) (k := 2) 0 k1 rfl in_X11 (by decide) w_387 rfl dX11_plan_159 rfl ?_
                      refine x_aload_n C dX11_plan_162 rfl 0 rfl rfl ?_
                      refine x_get C (ci := 10) (k := 6) 0 k1 rfl in_X11 (by decide) w_391 rfl dX11_plan_163 rfl ?_
                      refine x_iload_n C dX11_plan_166 rfl 1 rfl rfl ?_
                      refine x_iload_n C dX11_plan_167 rfl 2 rfl rfl ?_
                      obtain ⟨_, k180, n181, n183, v185, bn182, bn184, rfl⟩ := hW 92 _ rfl
                      refine x_vv C (As := [.ref (a 5), .ref (a 71), .int (nI j155), .int p1]) (rest := []) (c_planFind E l a ws hW 5 (Or.inl rfl) ((nI j155)) p1) mf_X6_find w_910 92 k180 rfl rfl rfl (Nat.le_of_ble_eq_true rfl) ⟨(Nat.le_of_ble_eq_true rfl), (Nat.le_of_ble_eq_true rfl)⟩ ⟨(Nat.le_of_ble_eq_true rfl), (Nat.le_of_ble_eq_true rfl)⟩ dX11_plan_168 rfl (fun w188 h186 => ?_)
                      obtain ⟨hW189, kq190⟩ := h186
                      have k191 : w188[0]? = some (ob (a 0) 10 [.ref (a 1), .ref (a 3), .ref (a 5), .ref (a 27), .ref (a 49), .int v2, .ref (a 71), .ref (a 79), .ref (a 87), .ref (a 92), .ref (a 103), .ref (a 105), .ref (a 106), .ref (a 107), .ref (a 108), .ref (a 109), .ref (a 110), .ref (a 111), .ref (a 112)]) := keeps_at kq190 k1 (by first | decide | omega | (dsimp only; omega))
                      have k192 : w188[5]? = some (ob (a 5) 8 [.int (nI n4), .int v6, .ref (a 6), .ref (a 9), .ref (a 14), .ref (a 21), .int v7, .int v8, .int v9, .int v10]) := keeps_at kq190 k3 (by first | decide | omega | (dsimp only; omega))
                      have k193 : w188[21]? = some (ob (a 21) 9 [.int v12, .ref (a 22), .ref (a 23), .ref (a 24), .ref (a 25), .ref (a 26)]) := keeps_at kq190 k11 (by first | decide | omega | (dsimp only; omega))
                      have k194 : w188[9]? = some (ob (a 9) 4 [.int v147, .ref (a 10), .ref (a 11), .ref (a 12), .ref (a 13)]) := keeps_at kq190 k146 (by first | decide | omega | (dsimp only; omega))
                      have kp195 := keeps_tr kp0 kq190 (fun q hq => by first | omega | (dsimp only at *; omega))
                      refine x_iload_n C dX11_plan_171 rfl 3 rfl rfl ?_
                      refine x_if_ne C (tgt := 183) dX11_plan_172 (by decide) rfl (fun c196 => ?_) (fun c196 => ?_)
                      · skip
                        have nf197 : ¬ j134 = 0 := fun q => c196 (congrArg nI q)
                        refine x_iload_n C dX11_plan_183 rfl 3 rfl rfl ?_
                        refine x_iconst C (v := 1) dX11_plan_184 (by decide) rfl ?_
                        refine x_icmp_ne C (tgt := 198) dX11_plan_185 (by decide) rfl (fun c198 => ?_) (fun c198 => ?_)
                        · skip
                          have nf199 : ¬ j134 = 1 := fun q => c198 (congrArg nI q)
                          refine x_aload_n C dX11_plan_198 rfl 0 rfl rfl ?_
                          refine x_get C (ci := 10) (k := 9) 0 k191 rfl in_X11 (by decide) w_394 rfl dX11_plan_199 rfl ?_
                          refine x_iload_n C dX11_plan_202 rfl 3 rfl rfl ?_
                          refine x_bipush C (v := 10) dX11_plan_203 (by decide) rfl ?_
                          refine x_isub C (v := ((nI j134) - (10 : Int32))) dX11_plan_205 rfl rfl ?_
                          refine x_any (fun v200 => ?_)
                          obtain ⟨_, k201, n202, n204, v206, bn203, bn205, rfl⟩ := hW189 92 _ rfl
                          refine x_vi C (As := [.int v200]) (rest := []) (c_rowOf E l a w188 hW189 v200) mf_X6_rowOf w_950 92 k201 rfl rfl rfl (Nat.le_of_ble_eq_true rfl) ⟨(Nat.le_of_ble_eq_true rfl), (Nat.le_of_ble_eq_true rfl)⟩ ⟨(Nat.le_of_ble_eq_true rfl), (Nat.le_of_ble_eq_true rfl)⟩ dX11_plan_206 rfl (fun r208 w209 h207 => ?_)
                          have hW210 := h207
                          refine x_ws hW210 ?_
                          exact x_zret C hr hlk rfl dX11_plan_209 ⟨hW189, kp195⟩
                        · skip
                          have nf211 : j134 = 1 := (nI_eq (by omega) (by omega)).mp c198
                          refine x_aload_n C dX11_plan_188 rfl 0 rfl rfl ?_
                          refine x_get C (ci := 10) (k := 9) 0 k191 rfl in_X11 (by decide) w_394 rfl dX11_plan_189 rfl ?_
                          obtain ⟨_, k212, n213, n215, v217, bn214, bn216, rfl⟩ := hW189 92 _ rfl
                          refine x_vi C (As := []) (rest := []) (c_bestEggs E l a w188 hW189) mf_X6_bestEggs w_945 92 k212 rfl rfl rfl (Nat.le_of_ble_eq_true rfl) ⟨(Nat.le_of_ble_eq_true rfl), (Nat.le_of_ble_eq_true rfl)⟩ ⟨(Nat.le_of_ble_eq_true rfl), (Nat.le_of_ble_eq_true rfl)⟩ dX11_plan_192 rfl (fun r219 w220 h218 => ?_)
                          have hW221 := h218
                          refine x_ws hW221 ?_
                          refine x_goto C (tgt := 209) dX11_plan_195 (by decide) ?_
                          exact x_zret C hr hlk rfl dX11_plan_209 ⟨hW189, kp195⟩
                      · skip
                        have nf222 : j134 = 0 := (nI_eq (by omega) (by omega)).mp c196
                        refine x_aload_n C dX11_plan_175 rfl 0 rfl rfl ?_
                        refine x_get C (ci := 10) (k := 9) 0 k191 rfl in_X11 (by decide) w_394 rfl dX11_plan_176 rfl ?_
                        obtain ⟨_, k223, n224, n226, v228, bn225, bn227, rfl⟩ := hW189 92 _ rfl
                        refine x_vi C (As := []) (rest := []) (c_bestWorth E l a w188 hW189) mf_X6_bestWorth w_941 92 k223 rfl rfl rfl (Nat.le_of_ble_eq_true rfl) ⟨(Nat.le_of_ble_eq_true rfl), (Nat.le_of_ble_eq_true rfl)⟩ ⟨(Nat.le_of_ble_eq_true rfl), (Nat.le_of_ble_eq_true rfl)⟩ dX11_plan_179 rfl (fun r230 w231 h229 => ?_)
                        have hW232 := h229
                        refine x_ws hW232 ?_
                        exact x_zret C hr hlk rfl dX11_plan_182 ⟨hW189, kp195⟩
                    · skip
                      have nf233 := nI_nle' (a := 8) (b := i) c178 (by omega) (by omega)
                      refine x_iload_n C dX11_plan_121 rfl 2 rfl rfl ?_
                      refine x_iload C dX11_plan_122 7 rfl rfl ?_
                      refine x_si C (As := [.int p1, .int (nI i)]) (rest := []) (c_isIn E l a ws hW p1 ((nI i))) mf_X11_isIn w_909 rfl rfl (Nat.le_of_ble_eq_true rfl) ⟨(Nat.le_of_ble_eq_true rfl), (Nat.le_of_ble_eq_true rfl)⟩ ⟨(Nat.le_of_ble_eq_true rfl), (Nat.le_of_ble_eq_true rfl)⟩ dX11_plan_124 rfl (fun r235 w236 h234 => ?_)
                      obtain ⟨hW237, zb238, x239⟩ := h234
                      refine x_ws hW237 ?_
                      refine x_if_eq C (tgt := 148) dX11_plan_127 (by decide) rfl (fun c240 => ?_) (fun c240 => ?_)
                      · skip
                        refine x_iinc C (v := (nI (i + 1))) (lv' := [(7, .int (nI (i + 1))), (0, .ref (a 0)), (1, .int (nI j155)), (2, .int p1), (3, .int (nI j134)), (4, .int v12), (5, .int 0), (6, .int 0)]) dX11_plan_148 7 rfl (nI_add i 1) (by decide) rfl rfl ?_
                        refine x_goto C (tgt := 114) dX11_plan_151 (by decide) ?_
                        refine x_lv (lv1 := [(0, .ref (a 0)), (1, .int (nI j155)), (2, .int p1), (3, .int (nI j134)), (4, .int v12), (5, .int 0), (6, .int 0), (7, .int (nI (i + 1)))]) [1, 2, 3, 4, 5, 6, 7, 0] rfl ?_
                        exact ih114 (i + 1) trivial (by omega) (by omega)
                      · skip
                        have wi241 := wth_le (a := 0) (b := 7) (j := i) (x239 c240) (by omega) (by decide) (by decide)
                        refine x_aload_n C dX11_plan_130 rfl 0 rfl rfl ?_
                        refine x_get C (ci := 10) (k := 2) 0 k1 rfl in_X11 (by decide) w_387 rfl dX11_plan_131 rfl ?_
                        refine x_get C (ci := 8) (k := 5) 5 k3 rfl in_X9 (by decide) w_213 rfl dX11_plan_134 rfl ?_
                        refine x_iload C dX11_plan_137 7 rfl rfl ?_
                        refine x_vi C (As := [.int (nI i)]) (rest := []) (c_Works_isDone E l a ws hW 5 (Or.inl rfl) ((nI i))) mf_X10_isDone w_894 21 k11 rfl rfl rfl (Nat.le_of_ble_eq_true rfl) ⟨(Nat.le_of_ble_eq_true rfl), (Nat.le_of_ble_eq_true rfl)⟩ ⟨(Nat.le_of_ble_eq_true rfl), (Nat.le_of_ble_eq_true rfl)⟩ dX11_plan_139 rfl (fun r243 w244 h242 => ?_)
                        obtain ⟨hW245, zb246, x247⟩ := h242
                        refine x_ws hW245 ?_
                        refine x_if_eq C (tgt := 148) dX11_plan_142 (by decide) rfl (fun c248 => ?_) (fun c248 => ?_)
                        · skip
                          refine x_iinc C (v := (nI (i + 1))) (lv' := [(7, .int (nI (i + 1))), (0, .ref (a 0)), (1, .int (nI j155)), (2, .int p1), (3, .int (nI j134)), (4, .int v12), (5, .int 0), (6, .int 0)]) dX11_plan_148 7 rfl (nI_add i 1) (by decide) rfl rfl ?_
                          refine x_goto C (tgt := 114) dX11_plan_151 (by decide) ?_
                          refine x_lv (lv1 := [(0, .ref (a 0)), (1, .int (nI j155)), (2, .int p1), (3, .int (nI j134)), (4, .int v12), (5, .int 0), (6, .int 0), (7, .int (nI (i + 1)))]) [1, 2, 3, 4, 5, 6, 7, 0] rfl ?_
                          exact ih114 (i + 1) trivial (by omega) (by omega)
                        · skip
                          have wi249 := wth_le (a := 0) (b := 7) (j := i) (x247 c248) (by omega) (by decide) (by decide)
                          refine x_bipush C (v := (-2)) dX11_plan_145 (by decide) rfl ?_
                          exact x_zret C hr hlk rfl dX11_plan_147 ⟨hW, kp0⟩
                refine x_lv (lv1 := [(0, .ref (a 0)), (1, .int (nI j155)), (2, .int p1), (3, .int (nI j134)), (4, .int v12), (5, .int 0), (6, .int 0), (7, .int 0)]) [4, 5, 6, 7, 3, 2, 1, 0] rfl ?_
                exact loop114 _ 0 trivial (Nat.lt_succ_self _) (by omega)
              · skip
                refine x_iload C dX11_plan_104 0 rfl rfl ?_
                refine x_if_ne C (tgt := 111) dX11_plan_106 (by decide) rfl (fun h => absurd h (by decide)) (fun _ => ?_)
                refine x_iconst C (v := (-1)) dX11_plan_109 (by decide) rfl ?_
                exact x_zret C hr hlk rfl dX11_plan_110 ⟨hW, kp0⟩
      · skip
        obtain ⟨j250, hl251, hh252, ej253⟩ := w_nat (a := 0) (b := 7) (by decide) (by decide) (x144 c145)
        subst ej253
        refine x_iconst C (v := 1) dX11_plan_55 (by decide) rfl ?_
        refine x_goto C (tgt := 60) dX11_plan_56 (by decide) ?_
        refine x_istore C (lv' := [(6, .int 1), (5, .int 0), (4, .int v12), (0, .ref (a 0)), (1, .int p0), (2, .int p1), (3, .int (nI j134))]) dX11_plan_60 (by decide) rfl rfl ?_
        refine x_aload_n C dX11_plan_62 rfl 3 rfl rfl ?_
        refine x_get C (ci := 10) (k := 2) 0 k1 rfl in_X11 (by decide) w_387 rfl dX11_plan_63 rfl ?_
        refine x_get C (ci := 8) (k := 3) 5 k3 rfl in_X9 (by decide) w_204 rfl dX11_plan_66 rfl ?_
        refine x_iload_n C dX11_plan_69 rfl 4 rfl rfl ?_
        obtain ⟨_, k254, v255, rfl⟩ := hW 9 _ rfl
        refine x_vi C (As := [.int p0]) (rest := []) (c_People_isTold E l a ws hW 5 (Or.inl rfl) p0) mf_X5_isTold w_465 9 k254 rfl rfl rfl (Nat.le_of_ble_eq_true rfl) ⟨(Nat.le_of_ble_eq_true rfl), (Nat.le_of_ble_eq_true rfl)⟩ ⟨(Nat.le_of_ble_eq_true rfl), (Nat.le_of_ble_eq_true rfl)⟩ dX11_plan_70 rfl (fun r257 w258 h256 => ?_)
        obtain ⟨hW259, zb260, x261⟩ := h256
        refine x_ws hW259 ?_
        refine x_if_eq C (tgt := 109) dX11_plan_73 (by decide) rfl (fun c262 => ?_) (fun c262 => ?_)
        · skip
          refine x_iconst C (v := (-1)) dX11_plan_109 (by decide) rfl ?_
          exact x_zret C hr hlk rfl dX11_plan_110 ⟨hW, kp0⟩
        · skip
          obtain ⟨j263, hl264, hh265, ej266⟩ := w_nat (a := 0) (b := 7) (by decide) (by decide) (x261 c262)
          subst ej266
          refine x_iload C dX11_plan_76 1 rfl rfl ?_
          refine x_iconst C (v := 1) dX11_plan_78 (by decide) rfl ?_
          refine x_iconst C (v := 4) dX11_plan_79 (by decide) rfl ?_
          refine x_si C (As := [.int 0, .int 1, .int 4]) (rest := []) (c_isWithin E l a ws hW (0 : Int32) (1 : Int32) (4 : Int32)) mf_X11_isWithin w_462 rfl rfl (Nat.le_of_ble_eq_true rfl) ⟨(Nat.le_of_ble_eq_true rfl), (Nat.le_of_ble_eq_true rfl)⟩ ⟨(Nat.le_of_ble_eq_true rfl), (Nat.le_of_ble_eq_true rfl)⟩ dX11_plan_80 rfl (fun r268 w269 h267 => ?_)
          obtain ⟨hW270, zb271, x272⟩ := h267
          refine x_ws hW270 ?_
          refine x_if_eq C (tgt := 109) dX11_plan_83 (by decide) rfl (fun c273 => ?_) (fun c273 => ?_)
          · skip
            refine x_iconst C (v := (-1)) dX11_plan_109 (by decide) rfl ?_
            exact x_zret C hr hlk rfl dX11_plan_110 ⟨hW, kp0⟩
          · skip
            have wi274 := x272 c273
            refine x_iload_n C dX11_plan_86 rfl 5 rfl rfl ?_
            refine x_iload C dX11_plan_87 2 rfl rfl ?_
            refine x_iconst C (v := (-1)) dX11_plan_89 (by decide) rfl ?_
            refine x_ixor C (v := (v12 ^^^ ((-1) : Int32))) dX11_plan_90 rfl rfl ?_
            refine x_any (fun v275 => ?_)
            refine x_iand C (v := (p1 &&& v275)) dX11_plan_91 rfl rfl ?_
            refine x_any (fun v276 => ?_)
            refine x_if_ne C (tgt := 109) dX11_plan_92 (by decide) rfl (fun c277 => ?_) (fun c277 => ?_)
            · skip
              refine x_iconst C (v := (-1)) dX11_plan_109 (by decide) rfl ?_
              exact x_zret C hr hlk rfl dX11_plan_110 ⟨hW, kp0⟩
            · skip
              refine x_iload_n C dX11_plan_95 rfl 6 rfl rfl ?_
              refine x_iconst C (v := 0) dX11_plan_96 (by decide) rfl ?_
              refine x_iconst C (v := 1) dX11_plan_97 (by decide) rfl ?_
              refine x_si C (As := [.int (nI j134), .int 0, .int 1]) (rest := []) (c_isWithin E l a ws hW ((nI j134)) (0 : Int32) (1 : Int32)) mf_X11_isWithin w_462 rfl rfl (Nat.le_of_ble_eq_true rfl) ⟨(Nat.le_of_ble_eq_true rfl), (Nat.le_of_ble_eq_true rfl)⟩ ⟨(Nat.le_of_ble_eq_true rfl), (Nat.le_of_ble_eq_true rfl)⟩ dX11_plan_98 rfl (fun r279 w280 h278 => ?_)
              obtain ⟨hW281, zb282, x283⟩ := h278
              refine x_ws hW281 ?_
              refine x_if_ne C (tgt := 111) dX11_plan_101 (by decide) rfl (fun c284 => ?_) (fun c284 => ?_)
              · skip
                have wi285 := x283 c284
                refine x_iconst C (v := 0) dX11_plan_111 (by decide) rfl ?_
                refine x_istore C (lv' := [(7, .int 0), (6, .int 1), (5, .int 0), (4, .int v12), (0, .ref (a 0)), (1, .int (nI j263)), (2, .int p1), (3, .int (nI j134))]) dX11_plan_112 (by decide) rfl rfl ?_
                have loop114 : ∀ (fu114 : Nat) (i : Nat), True → 8 - i < fu114 → i ≤ 8 → X E p l e (xRm 8 0 0) s m ([.ref (a 0), .int (nI j263), .int p1, .int (nI j134)] : List Value).toArray below meth c A 8 0 0 (MQ below (va_Qi (fun r w => WX (okX E a) w ∧ keeps ws w (fun q => ¬ (q = 0 ∨ q = 6 ∨ q = 9 ∨ q = 28 ∨ q = 31))) (xB E A) A) ([.ref (a 0), .int (nI j263), .int p1, .int (nI j134)] : List Value).toArray s 0 0 A) ws 114 [(0, .ref (a 0)), (1, .int (nI j263)), (2, .int p1), (3, .int (nI j134)), (4, .int v12), (5, .int 0), (6, .int 1), (7, .int (nI i))] [] := by
                  intro fu114
                  induction fu114 with
                  | zero => intro i _ q; omega
                  | succ fu114 ih114 =>
                    intro i _ me114 iv114_0
                    refine x_iload C dX11_plan_114 7 rfl rfl ?_
                    refine x_bipush C (v := 8) dX11_plan_116 (by decide) rfl ?_
                    refine x_icmp_ge C (tgt := 154) dX11_plan_118 (by decide) rfl (fun c286 => ?_) (fun c286 => ?_)
                    · skip
                      have nf287 := nI_le' (a := 8) (b := i) c286 (by omega) (by omega)
                      refine x_aload_n C dX11_plan_154 rfl 0 rfl rfl ?_
                      refine x_get C (ci := 10) (k := 9) 0 k1 rfl in_X11 (by decide) w_394 rfl dX11_plan_155 rfl ?_
                      refine x_aload_n C dX11_plan_158 rfl 0 rfl rfl ?_
                      refine x_get C (ci := 10) (k := 2) 0 k1 rfl in_X11 (by decide) w_387 rfl dX11_plan_159 rfl ?_
                      refine x_aload_n C dX11_plan_162 rfl 0 rfl rfl ?_
                      refine x_get C (ci := 10) (k := 6) 0 k1 rfl in_X11 (by decide) w_391 rfl dX11_plan_163 rfl ?_
                      refine x_iload_n C dX11_plan_166 rfl 1 rfl rfl ?_
                      refine x_iload_n C dX11_plan_167 rfl 2 rfl rfl ?_
                      obtain ⟨_, k288, n289, n291, v293, bn290, bn292, rfl⟩ := hW 92 _ rfl
                      refine x_vv C (As := [.ref (a 5), .ref (a 71), .int (nI j263), .int p1]) (rest := []) (c_planFind E l a ws hW 5 (Or.inl rfl) ((nI j263)) p1) mf_X6_find w_910 92 k288 rfl rfl rfl (Nat.le_of_ble_eq_true rfl) ⟨(Nat.le_of_ble_eq_true rfl), (Nat.le_of_ble_eq_true rfl)⟩ ⟨(Nat.le_of_ble_eq_true rfl), (Nat.le_of_ble_eq_true rfl)⟩ dX11_plan_168 rfl (fun w296 h294 => ?_)
                      obtain ⟨hW297, kq298⟩ := h294
                      have k299 : w296[0]? = some (ob (a 0) 10 [.ref (a 1), .ref (a 3), .ref (a 5), .ref (a 27), .ref (a 49), .int v2, .ref (a 71), .ref (a 79), .ref (a 87), .ref (a 92), .ref (a 103), .ref (a 105), .ref (a 106), .ref (a 107), .ref (a 108), .ref (a 109), .ref (a 110), .ref (a 111), .ref (a 112)]) := keeps_at kq298 k1 (by first | decide | omega | (dsimp only; omega))
                      have k300 : w296[5]? = some (ob (a 5) 8 [.int (nI n4), .int v6, .ref (a 6), .ref (a 9), .ref (a 14), .ref (a 21), .int v7, .int v8, .int v9, .int v10]) := keeps_at kq298 k3 (by first | decide | omega | (dsimp only; omega))
                      have k301 : w296[21]? = some (ob (a 21) 9 [.int v12, .ref (a 22), .ref (a 23), .ref (a 24), .ref (a 25), .ref (a 26)]) := keeps_at kq298 k11 (by first | decide | omega | (dsimp only; omega))
                      have k302 : w296[9]? = some (ob (a 9) 4 [.int v255, .ref (a 10), .ref (a 11), .ref (a 12), .ref (a 13)]) := keeps_at kq298 k254 (by first | decide | omega | (dsimp only; omega))
                      have kp303 := keeps_tr kp0 kq298 (fun q hq => by first | omega | (dsimp only at *; omega))
                      refine x_iload_n C dX11_plan_171 rfl 3 rfl rfl ?_
                      refine x_if_ne C (tgt := 183) dX11_plan_172 (by decide) rfl (fun c304 => ?_) (fun c304 => ?_)
                      · skip
                        have nf305 : ¬ j134 = 0 := fun q => c304 (congrArg nI q)
                        refine x_iload_n C dX11_plan_183 rfl 3 rfl rfl ?_
                        refine x_iconst C (v := 1) dX11_plan_184 (by decide) rfl ?_
                        refine x_icmp_ne C (tgt := 198) dX11_plan_185 (by decide) rfl (fun c306 => ?_) (fun c306 => ?_)
                        · skip
                          have nf307 : ¬ j134 = 1 := fun q => c306 (congrArg nI q)
                          refine x_aload_n C dX11_plan_198 rfl 0 rfl rfl ?_
                          refine x_get C (ci := 10) (k := 9) 0 k299 rfl in_X11 (by decide) w_394 rfl dX11_plan_199 rfl ?_
                          refine x_iload_n C dX11_plan_202 rfl 3 rfl rfl ?_
                          refine x_bipush C (v := 10) dX11_plan_203 (by decide) rfl ?_
                          refine x_isub C (v := ((nI j134) - (10 : Int32))) dX11_plan_205 rfl rfl ?_
                          refine x_any (fun v308 => ?_)
                          obtain ⟨_, k309, n310, n312, v314, bn311, bn313, rfl⟩ := hW297 92 _ rfl
                          refine x_vi C (As := [.int v308]) (rest := []) (c_rowOf E l a w296 hW297 v308) mf_X6_rowOf w_950 92 k309 rfl rfl rfl (Nat.le_of_ble_eq_true rfl) ⟨(Nat.le_of_ble_eq_true rfl), (Nat.le_of_ble_eq_true rfl)⟩ ⟨(Nat.le_of_ble_eq_true rfl), (Nat.le_of_ble_eq_true rfl)⟩ dX11_plan_206 rfl (fun r316 w317 h315 => ?_)
                          have hW318 := h315
                          refine x_ws hW318 ?_
                          exact x_zret C hr hlk rfl dX11_plan_209 ⟨hW297, kp303⟩
                        · skip
                          have nf319 : j134 = 1 := (nI_eq (by omega) (by omega)).mp c306
                          refine x_aload_n C dX11_plan_188 rfl 0 rfl rfl ?_
                          refine x_get C (ci := 10) (k := 9) 0 k299 rfl in_X11 (by decide) w_394 rfl dX11_plan_189 rfl ?_
                          obtain ⟨_, k320, n321, n323, v325, bn322, bn324, rfl⟩ := hW297 92 _ rfl
                          refine x_vi C (As := []) (rest := []) (c_bestEggs E l a w296 hW297) mf_X6_bestEggs w_945 92 k320 rfl rfl rfl (Nat.le_of_ble_eq_true rfl) ⟨(Nat.le_of_ble_eq_true rfl), (Nat.le_of_ble_eq_true rfl)⟩ ⟨(Nat.le_of_ble_eq_true rfl), (Nat.le_of_ble_eq_true rfl)⟩ dX11_plan_192 rfl (fun r327 w328 h326 => ?_)
                          have hW329 := h326
                          refine x_ws hW329 ?_
                          refine x_goto C (tgt := 209) dX11_plan_195 (by decide) ?_
                          exact x_zret C hr hlk rfl dX11_plan_209 ⟨hW297, kp303⟩
                      · skip
                        have nf330 : j134 = 0 := (nI_eq (by omega) (by omega)).mp c304
                        refine x_aload_n C dX11_plan_175 rfl 0 rfl rfl ?_
                        refine x_get C (ci := 10) (k := 9) 0 k299 rfl in_X11 (by decide) w_394 rfl dX11_plan_176 rfl ?_
                        obtain ⟨_, k331, n332, n334, v336, bn333, bn335, rfl⟩ := hW297 92 _ rfl
                        refine x_vi C (As := []) (rest := []) (c_bestWorth E l a w296 hW297) mf_X6_bestWorth w_941 92 k331 rfl rfl rfl (Nat.le_of_ble_eq_true rfl) ⟨(Nat.le_of_ble_eq_true rfl), (Nat.le_of_ble_eq_true rfl)⟩ ⟨(Nat.le_of_ble_eq_true rfl), (Nat.le_of_ble_eq_true rfl)⟩ dX11_plan_179 rfl (fun r338 w339 h337 => ?_)
                        have hW340 := h337
                        refine x_ws hW340 ?_
                        exact x_zret C hr hlk rfl dX11_plan_182 ⟨hW297, kp303⟩
                    · skip
                      have nf341 := nI_nle' (a := 8) (b := i) c286 (by omega) (by omega)
                      refine x_iload_n C dX11_plan_121 rfl 2 rfl rfl ?_
                      refine x_iload C dX11_plan_122 7 rfl rfl ?_
                      refine x_si C (As := [.int p1, .int (nI i)]) (rest := []) (c_isIn E l a ws hW p1 ((nI i))) mf_X11_isIn w_909 rfl rfl (Nat.le_of_ble_eq_true rfl) ⟨(Nat.le_of_ble_eq_true rfl), (Nat.le_of_ble_eq_true rfl)⟩ ⟨(Nat.le_of_ble_eq_true rfl), (Nat.le_of_ble_eq_true rfl)⟩ dX11_plan_124 rfl (fun r343 w344 h342 => ?_)
                      obtain ⟨hW345, zb346, x347⟩ := h342
                      refine x_ws hW345 ?_
                      refine x_if_eq C (tgt := 148) dX11_plan_127 (by decide) rfl (fun c348 => ?_) (fun c348 => ?_)
                      · skip
                        refine x_iinc C (v := (nI (i + 1))) (lv' := [(7, .int (nI (i + 1))), (0, .ref (a 0)), (1, .int (nI j263)), (2, .int p1), (3, .int (nI j134)), (4, .int v12), (5, .int 0), (6, .int 1)]) dX11_plan_148 7 rfl (nI_add i 1) (by decide) rfl rfl ?_
                        refine x_goto C (tgt := 114) dX11_plan_151 (by decide) ?_
                        refine x_lv (lv1 := [(0, .ref (a 0)), (1, .int (nI j263)), (2, .int p1), (3, .int (nI j134)), (4, .int v12), (5, .int 0), (6, .int 1), (7, .int (nI (i + 1)))]) [1, 2, 3, 4, 5, 6, 7, 0] rfl ?_
                        exact ih114 (i + 1) trivial (by omega) (by omega)
                      · skip
                        have wi349 := wth_le (a := 0) (b := 7) (j := i) (x347 c348) (by omega) (by decide) (by decide)
                        refine x_aload_n C dX11_plan_130 rfl 0 rfl rfl ?_
                        refine x_get C (ci := 10) (k := 2) 0 k1 rfl in_X11 (by decide) w_387 rfl dX11_plan_131 rfl ?_
                        refine x_get C (ci := 8) (k := 5) 5 k3 rfl in_X9 (by decide) w_213 rfl dX11_plan_134 rfl ?_
                        refine x_iload C dX11_plan_137 7 rfl rfl ?_
                        refine x_vi C (As := [.int (nI i)]) (rest := []) (c_Works_isDone E l a ws hW 5 (Or.inl rfl) ((nI i))) mf_X10_isDone w_894 21 k11 rfl rfl rfl (Nat.le_of_ble_eq_true rfl) ⟨(Nat.le_of_ble_eq_true rfl), (Nat.le_of_ble_eq_true rfl)⟩ ⟨(Nat.le_of_ble_eq_true rfl), (Nat.le_of_ble_eq_true rfl)⟩ dX11_plan_139 rfl (fun r351 w352 h350 => ?_)
                        obtain ⟨hW353, zb354, x355⟩ := h350
                        refine x_ws hW353 ?_
                        refine x_if_eq C (tgt := 148) dX11_plan_142 (by decide) rfl (fun c356 => ?_) (fun c356 => ?_)
                        · skip
                          refine x_iinc C (v := (nI (i + 1))) (lv' := [(7, .int (nI (i + 1))), (0, .ref (a 0)), (1, .int (nI j263)), (2, .int p1), (3, .int (nI j134)), (4, .int v12), (5, .int 0), (6, .int 1)]) dX11_plan_148 7 rfl (nI_add i 1) (by decide) rfl rfl ?_
                          refine x_goto C (tgt := 114) dX11_plan_151 (by decide) ?_
                          refine x_lv (lv1 := [(0, .ref (a 0)), (1, .int (nI j263)), (2, .int p1), (3, .int (nI j134)), (4, .int v12), (5, .int 0), (6, .int 1), (7, .int (nI (i + 1)))]) [1, 2, 3, 4, 5, 6, 7, 0] rfl ?_
                          exact ih114 (i + 1) trivial (by omega) (by omega)
                        · skip
                          have wi357 := wth_le (a := 0) (b := 7) (j := i) (x355 c356) (by omega) (by decide) (by decide)
                          refine x_bipush C (v := (-2)) dX11_plan_145 (by decide) rfl ?_
                          exact x_zret C hr hlk rfl dX11_plan_147 ⟨hW, kp0⟩
                refine x_lv (lv1 := [(0, .ref (a 0)), (1, .int (nI j263)), (2, .int p1), (3, .int (nI j134)), (4, .int v12), (5, .int 0), (6, .int 1), (7, .int 0)]) [4, 5, 6, 7, 3, 2, 1, 0] rfl ?_
                exact loop114 _ 0 trivial (Nat.lt_succ_self _) (by omega)
              · skip
                refine x_iload C dX11_plan_104 0 rfl rfl ?_
                refine x_if_ne C (tgt := 111) dX11_plan_106 (by decide) rfl (fun _ => ?_) (fun h => absurd h (by decide))
                refine x_iconst C (v := 0) dX11_plan_111 (by decide) rfl ?_
                refine x_istore C (lv' := [(7, .int 0), (6, .int 1), (5, .int 0), (4, .int v12), (0, .ref (a 0)), (1, .int (nI j263)), (2, .int p1), (3, .int (nI j134))]) dX11_plan_112 (by decide) rfl rfl ?_
                have loop114 : ∀ (fu114 : Nat) (i : Nat), True → 8 - i < fu114 → i ≤ 8 → X E p l e (xRm 8 0 0) s m ([.ref (a 0), .int (nI j263), .int p1, .int (nI j134)] : List Value).toArray below meth c A 8 0 0 (MQ below (va_Qi (fun r w => WX (okX E a) w ∧ keeps ws w (fun q => ¬ (q = 0 ∨ q = 6 ∨ q = 9 ∨ q = 28 ∨ q = 31))) (xB E A) A) ([.ref (a 0), .int (nI j263), .int p1, .int (nI j134)] : List Value).toArray s 0 0 A) ws 114 [(0, .ref (a 0)), (1, .int (nI j263)), (2, .int p1), (3, .int (nI j134)), (4, .int v12), (5, .int 0), (6, .int 1), (7, .int (nI i))] [] := by
                  intro fu114
                  induction fu114 with
                  | zero => intro i _ q; omega
                  | succ fu114 ih114 =>
                    intro i _ me114 iv114_0
                    refine x_iload C dX11_plan_114 7 rfl rfl ?_
                    refine x_bipush C (v := 8) dX11_plan_116 (by decide) rfl ?_
                    refine x_icmp_ge C (tgt := 154) dX11_plan_118 (by decide) rfl (fun c358 => ?_) (fun c358 => ?_)
                    · skip
                      have nf359 := nI_le' (a := 8) (b := i) c358 (by omega) (by omega)
                      refine x_aload_n C dX11_plan_154 rfl 0 rfl rfl ?_
                      refine x_get C (ci := 10) (k := 9) 0 k1 rfl in_X11 (by decide) w_394 rfl dX11_plan_155 rfl ?_
                      refine x_aload_n C dX11_plan_158 rfl 0 rfl rfl ?_
                      refine x_get C (ci := 10) (k := 2) 0 k1 rfl in_X11 (by decide) w_387 rfl dX11_plan_159 rfl ?_
                      refine x_aload_n C dX11_plan_162 rfl 0 rfl rfl ?_
                      refine x_get C (ci := 10) (k := 6) 0 k1 rfl in_X11 (by decide) w_391 rfl dX11_plan_163 rfl ?_
                      refine x_iload_n C dX11_plan_166 rfl 1 rfl rfl ?_
                      refine x_iload_n C dX11_plan_167 rfl 2 rfl rfl ?_
                      obtain ⟨_, k360, n361, n363, v365, bn362, bn364, rfl⟩ := hW 92 _ rfl
                      refine x_vv C (As := [.ref (a 5), .ref (a 71), .int (nI j263), .int p1]) (rest := []) (c_planFind E l a ws hW 5 (Or.inl rfl) ((nI j263)) p1) mf_X6_find w_910 92 k360 rfl rfl rfl (Nat.le_of_ble_eq_true rfl) ⟨(Nat.le_of_ble_eq_true rfl), (Nat.le_of_ble_eq_true rfl)⟩ ⟨(Nat.le_of_ble_eq_true rfl), (Nat.le_of_ble_eq_true rfl)⟩ dX11_plan_168 rfl (fun w368 h366 => ?_)
                      obtain ⟨hW369, kq370⟩ := h366
                      have k371 : w368[0]? = some (ob (a 0) 10 [.ref (a 1), .ref (a 3), .ref (a 5), .ref (a 27), .ref (a 49), .int v2, .ref (a 71), .ref (a 79), .ref (a 87), .ref (a 92), .ref (a 103), .ref (a 105), .ref (a 106), .ref (a 107), .ref (a 108), .ref (a 109), .ref (a 110), .ref (a 111), .ref (a 112)]) := keeps_at kq370 k1 (by first | decide | omega | (dsimp only; omega))
                      have k372 : w368[5]? = some (ob (a 5) 8 [.int (nI n4), .int v6, .ref (a 6), .ref (a 9), .ref (a 14), .ref (a 21), .int v7, .int v8, .int v9, .int v10]) := keeps_at kq370 k3 (by first | decide | omega | (dsimp only; omega))
                      have k373 : w368[21]? = some (ob (a 21) 9 [.int v12, .ref (a 22), .ref (a 23), .ref (a 24), .ref (a 25), .ref (a 26)]) := keeps_at kq370 k11 (by first | decide | omega | (dsimp only; omega))
                      have k374 : w368[9]? = some (ob (a 9) 4 [.int v255, .ref (a 10), .ref (a 11), .ref (a 12), .ref (a 13)]) := keeps_at kq370 k254 (by first | decide | omega | (dsimp only; omega))
                      have kp375 := keeps_tr kp0 kq370 (fun q hq => by first | omega | (dsimp only at *; omega))
                      refine x_iload_n C dX11_plan_171 rfl 3 rfl rfl ?_
                      refine x_if_ne C (tgt := 183) dX11_plan_172 (by decide) rfl (fun c376 => ?_) (fun c376 => ?_)
                      · skip
                        have nf377 : ¬ j134 = 0 := fun q => c376 (congrArg nI q)
                        refine x_iload_n C dX11_plan_183 rfl 3 rfl rfl ?_
                        refine x_iconst C (v := 1) dX11_plan_184 (by decide) rfl ?_
                        refine x_icmp_ne C (tgt := 198) dX11_plan_185 (by decide) rfl (fun c378 => ?_) (fun c378 => ?_)
                        · skip
                          have nf379 : ¬ j134 = 1 := fun q => c378 (congrArg nI q)
                          refine x_aload_n C dX11_plan_198 rfl 0 rfl rfl ?_
                          refine x_get C (ci := 10) (k := 9) 0 k371 rfl in_X11 (by decide) w_394 rfl dX11_plan_199 rfl ?_
                          refine x_iload_n C dX11_plan_202 rfl 3 rfl rfl ?_
                          refine x_bipush C (v := 10) dX11_plan_203 (by decide) rfl ?_
                          refine x_isub C (v := ((nI j134) - (10 : Int32))) dX11_plan_205 rfl rfl ?_
                          refine x_any (fun v380 => ?_)
                          obtain ⟨_, k381, n382, n384, v386, bn383, bn385, rfl⟩ := hW369 92 _ rfl
                          refine x_vi C (As := [.int v380]) (rest := []) (c_rowOf E l a w368 hW369 v380) mf_X6_rowOf w_950 92 k381 rfl rfl rfl (Nat.le_of_ble_eq_true rfl) ⟨(Nat.le_of_ble_eq_true rfl), (Nat.le_of_ble_eq_true rfl)⟩ ⟨(Nat.le_of_ble_eq_true rfl), (Nat.le_of_ble_eq_true rfl)⟩ dX11_plan_206 rfl (fun r388 w389 h387 => ?_)
                          have hW390 := h387
                          refine x_ws hW390 ?_
                          exact x_zret C hr hlk rfl dX11_plan_209 ⟨hW369, kp375⟩
                        · skip
                          have nf391 : j134 = 1 := (nI_eq (by omega) (by omega)).mp c378
                          refine x_aload_n C dX11_plan_188 rfl 0 rfl rfl ?_
                          refine x_get C (ci := 10) (k := 9) 0 k371 rfl in_X11 (by decide) w_394 rfl dX11_plan_189 rfl ?_
                          obtain ⟨_, k392, n393, n395, v397, bn394, bn396, rfl⟩ := hW369 92 _ rfl
                          refine x_vi C (As := []) (rest := []) (c_bestEggs E l a w368 hW369) mf_X6_bestEggs w_945 92 k392 rfl rfl rfl (Nat.le_of_ble_eq_true rfl) ⟨(Nat.le_of_ble_eq_true rfl), (Nat.le_of_ble_eq_true rfl)⟩ ⟨(Nat.le_of_ble_eq_true rfl), (Nat.le_of_ble_eq_true rfl)⟩ dX11_plan_192 rfl (fun r399 w400 h398 => ?_)
                          have hW401 := h398
                          refine x_ws hW401 ?_
                          refine x_goto C (tgt := 209) dX11_plan_195 (by decide) ?_
                          exact x_zret C hr hlk rfl dX11_plan_209 ⟨hW369, kp375⟩
                      · skip
                        have nf402 : j134 = 0 := (nI_eq (by omega) (by omega)).mp c376
                        refine x_aload_n C dX11_plan_175 rfl 0 rfl rfl ?_
                        refine x_get C (ci := 10) (k := 9) 0 k371 rfl in_X11 (by decide) w_394 rfl dX11_plan_176 rfl ?_
                        obtain ⟨_, k403, n404, n406, v408, bn405, bn407, rfl⟩ := hW369 92 _ rfl
                        refine x_vi C (As := []) (rest := []) (c_bestWorth E l a w368 hW369) mf_X6_bestWorth w_941 92 k403 rfl rfl rfl (Nat.le_of_ble_eq_true rfl) ⟨(Nat.le_of_ble_eq_true rfl), (Nat.le_of_ble_eq_true rfl)⟩ ⟨(Nat.le_of_ble_eq_true rfl), (Nat.le_of_ble_eq_true rfl)⟩ dX11_plan_179 rfl (fun r410 w411 h409 => ?_)
                        have hW412 := h409
                        refine x_ws hW412 ?_
                        exact x_zret C hr hlk rfl dX11_plan_182 ⟨hW369, kp375⟩
                    · skip
                      have nf413 := nI_nle' (a := 8) (b := i) c358 (by omega) (by omega)
                      refine x_iload_n C dX11_plan_121 rfl 2 rfl rfl ?_
                      refine x_iload C dX11_plan_122 7 rfl rfl ?_
                      refine x_si C (As := [.int p1, .int (nI i)]) (rest := []) (c_isIn E l a ws hW p1 ((nI i))) mf_X11_isIn w_909 rfl rfl (Nat.le_of_ble_eq_true rfl) ⟨(Nat.le_of_ble_eq_true rfl), (Nat.le_of_ble_eq_true rfl)⟩ ⟨(Nat.le_of_ble_eq_true rfl), (Nat.le_of_ble_eq_true rfl)⟩ dX11_plan_124 rfl (fun r415 w416 h414 => ?_)
                      obtain ⟨hW417, zb418, x419⟩ := h414
                      refine x_ws hW417 ?_
                      refine x_if_eq C (tgt := 148) dX11_plan_127 (by decide) rfl (fun c420 => ?_) (fun c420 => ?_)
                      · skip
                        refine x_iinc C (v := (nI (i + 1))) (lv' := [(7, .int (nI (i + 1))), (0, .ref (a 0)), (1, .int (nI j263)), (2, .int p1), (3, .int (nI j134)), (4, .int v12), (5, .int 0), (6, .int 1)]) dX11_plan_148 7 rfl (nI_add i 1) (by decide) rfl rfl ?_
                        refine x_goto C (tgt := 114) dX11_plan_151 (by decide) ?_
                        refine x_lv (lv1 := [(0, .ref (a 0)), (1, .int (nI j263)), (2, .int p1), (3, .int (nI j134)), (4, .int v12), (5, .int 0), (6, .int 1), (7, .int (nI (i + 1)))]) [1, 2, 3, 4, 5, 6, 7, 0] rfl ?_
                        exact ih114 (i + 1) trivial (by omega) (by omega)
                      · skip
                        have wi421 := wth_le (a := 0) (b := 7) (j := i) (x419 c420) (by omega) (by decide) (by decide)
                        refine x_aload_n C dX11_plan_130 rfl 0 rfl rfl ?_
                        refine x_get C (ci := 10) (k := 2) 0 k1 rfl in_X11 (by decide) w_387 rfl dX11_plan_131 rfl ?_
                        refine x_get C (ci := 8) (k := 5) 5 k3 rfl in_X9 (by decide) w_213 rfl dX11_plan_134 rfl ?_
                        refine x_iload C dX11_plan_137 7 rfl rfl ?_
                        refine x_vi C (As := [.int (nI i)]) (rest := []) (c_Works_isDone E l a ws hW 5 (Or.inl rfl) ((nI i))) mf_X10_isDone w_894 21 k11 rfl rfl rfl (Nat.le_of_ble_eq_true rfl) ⟨(Nat.le_of_ble_eq_true rfl), (Nat.le_of_ble_eq_true rfl)⟩ ⟨(Nat.le_of_ble_eq_true rfl), (Nat.le_of_ble_eq_true rfl)⟩ dX11_plan_139 rfl (fun r423 w424 h422 => ?_)
                        obtain ⟨hW425, zb426, x427⟩ := h422
                        refine x_ws hW425 ?_
                        refine x_if_eq C (tgt := 148) dX11_plan_142 (by decide) rfl (fun c428 => ?_) (fun c428 => ?_)
                        · skip
                          refine x_iinc C (v := (nI (i + 1))) (lv' := [(7, .int (nI (i + 1))), (0, .ref (a 0)), (1, .int (nI j263)), (2, .int p1), (3, .int (nI j134)), (4, .int v12), (5, .int 0), (6, .int 1)]) dX11_plan_148 7 rfl (nI_add i 1) (by decide) rfl rfl ?_
                          refine x_goto C (tgt := 114) dX11_plan_151 (by decide) ?_
                          refine x_lv (lv1 := [(0, .ref (a 0)), (1, .int (nI j263)), (2, .int p1), (3, .int (nI j134)), (4, .int v12), (5, .int 0), (6, .int 1), (7, .int (nI (i + 1)))]) [1, 2, 3, 4, 5, 6, 7, 0] rfl ?_
                          exact ih114 (i + 1) trivial (by omega) (by omega)
                        · skip
                          have wi429 := wth_le (a := 0) (b := 7) (j := i) (x427 c428) (by omega) (by decide) (by decide)
                          refine x_bipush C (v := (-2)) dX11_plan_145 (by decide) rfl ?_
                          exact x_zret C hr hlk rfl dX11_plan_147 ⟨hW, kp0⟩
                refine x_lv (lv1 := [(0, .ref (a 0)), (1, .int (nI j263)), (2, .int p1), (3, .int (nI j134)), (4, .int v12), (5, .int 0), (6, .int 1), (7, .int 0)]) [4, 5, 6, 7, 3, 2, 1, 0] rfl ?_
                exact loop114 _ 0 trivial (Nat.lt_succ_self _) (by omega)
  · skip
    obtain ⟨j430, hl431, hh432, ej433⟩ := w_nat (a := 1) (b := 255) (by decide) (by decide) (x18 c19)
    subst ej433
    refine x_iload_n C dX11_plan_23 rfl 3 rfl rfl ?_
    refine x_si C (As := [.int (nI j430)]) (rest := []) (c_bitCount E l a ws hW ((nI j430))) mf_J6_bitCount_0f7a4 w_903 rfl rfl (Nat.le_of_ble_eq_true rfl) ⟨(Nat.le_of_ble_eq_true rfl), (Nat.le_of_ble_eq_true rfl)⟩ ⟨(Nat.le_of_ble_eq_true rfl), (Nat.le_of_ble_eq_true rfl)⟩ dX11_plan_24 rfl (fun r435 w436 h434 => ?_)
    obtain ⟨hW437, x438⟩ := h434
    refine x_ws hW437 ?_
    refine x_goto C (tgt := 31) dX11_plan_27 (by decide) ?_
    refine x_istore C (lv' := [(5, .int r435), (4, .int v12), (0, .ref (a 0)), (1, .int p0), (2, .int (nI j430)), (3, .int p2)]) dX11_plan_31 (by decide) rfl rfl ?_
    refine x_iload_n C dX11_plan_33 rfl 5 rfl rfl ?_
    refine x_bipush C (v := 10) dX11_plan_34 (by decide) rfl ?_
    refine x_bipush C (v := 17) dX11_plan_36 (by decide) rfl ?_
    refine x_si C (As := [.int p2, .int 10, .int 17]) (rest := []) (c_isWithin E l a ws hW p2 (10 : Int32) (17 : Int32)) mf_X11_isWithin w_462 rfl rfl (Nat.le_of_ble_eq_true rfl) ⟨(Nat.le_of_ble_eq_true rfl), (Nat.le_of_ble_eq_true rfl)⟩ ⟨(Nat.le_of_ble_eq_true rfl), (Nat.le_of_ble_eq_true rfl)⟩ dX11_plan_38 rfl (fun r440 w441 h439 => ?_)
    obtain ⟨hW442, zb443, x444⟩ := h439
    refine x_ws hW442 ?_
    refine x_if_eq C (tgt := 59) dX11_plan_41 (by decide) rfl (fun c445 => ?_) (fun c445 => ?_)
    · skip
      refine x_iconst C (v := 0) dX11_plan_59 (by decide) rfl ?_
      refine x_istore C (lv' := [(6, .int 0), (5, .int r435), (4, .int v12), (0, .ref (a 0)), (1, .int p0), (2, .int (nI j430)), (3, .int p2)]) dX11_plan_60 (by decide) rfl rfl ?_
      refine x_aload_n C dX11_plan_62 rfl 3 rfl rfl ?_
      refine x_get C (ci := 10) (k := 2) 0 k1 rfl in_X11 (by decide) w_387 rfl dX11_plan_63 rfl ?_
      refine x_get C (ci := 8) (k := 3) 5 k3 rfl in_X9 (by decide) w_204 rfl dX11_plan_66 rfl ?_
      refine x_iload_n C dX11_plan_69 rfl 4 rfl rfl ?_
      obtain ⟨_, k446, v447, rfl⟩ := hW 9 _ rfl
      refine x_vi C (As := [.int p0]) (rest := []) (c_People_isTold E l a ws hW 5 (Or.inl rfl) p0) mf_X5_isTold w_465 9 k446 rfl rfl rfl (Nat.le_of_ble_eq_true rfl) ⟨(Nat.le_of_ble_eq_true rfl), (Nat.le_of_ble_eq_true rfl)⟩ ⟨(Nat.le_of_ble_eq_true rfl), (Nat.le_of_ble_eq_true rfl)⟩ dX11_plan_70 rfl (fun r449 w450 h448 => ?_)
      obtain ⟨hW451, zb452, x453⟩ := h448
      refine x_ws hW451 ?_
      refine x_if_eq C (tgt := 109) dX11_plan_73 (by decide) rfl (fun c454 => ?_) (fun c454 => ?_)
      · skip
        refine x_iconst C (v := (-1)) dX11_plan_109 (by decide) rfl ?_
        exact x_zret C hr hlk rfl dX11_plan_110 ⟨hW, kp0⟩
      · skip
        obtain ⟨j455, hl456, hh457, ej458⟩ := w_nat (a := 0) (b := 7) (by decide) (by decide) (x453 c454)
        subst ej458
        refine x_iload C dX11_plan_76 1 rfl rfl ?_
        refine x_iconst C (v := 1) dX11_plan_78 (by decide) rfl ?_
        refine x_iconst C (v := 4) dX11_plan_79 (by decide) rfl ?_
        refine x_si C (As := [.int r435, .int 1, .int 4]) (rest := []) (c_isWithin E l a ws hW r435 (1 : Int32) (4 : Int32)) mf_X11_isWithin w_462 rfl rfl (Nat.le_of_ble_eq_true rfl) ⟨(Nat.le_of_ble_eq_true rfl), (Nat.le_of_ble_eq_true rfl)⟩ ⟨(Nat.le_of_ble_eq_true rfl), (Nat.le_of_ble_eq_true rfl)⟩ dX11_plan_80 rfl (fun r460 w461 h459 => ?_)
        obtain ⟨hW462, zb463, x464⟩ := h459
        refine x_ws hW462 ?_
        refine x_if_eq C (tgt := 109) dX11_plan_83 (by decide) rfl (fun c465 => ?_) (fun c465 => ?_)
        · skip
          refine x_iconst C (v := (-1)) dX11_plan_109 (by decide) rfl ?_
          exact x_zret C hr hlk rfl dX11_plan_110 ⟨hW, kp0⟩
        · skip
          obtain ⟨j466, hl467, hh468, ej469⟩ := w_nat (a := 1) (b := 4) (by decide) (by decide) (x464 c465)
          subst ej469
          refine x_iload_n C dX11_plan_86 rfl 5 rfl rfl ?_
          refine x_iload C dX11_plan_87 2 rfl rfl ?_
          refine x_iconst C (v := (-1)) dX11_plan_89 (by decide) rfl ?_
          refine x_ixor C (v := (v12 ^^^ ((-1) : Int32))) dX11_plan_90 rfl rfl ?_
          refine x_any (fun v470 => ?_)
          refine x_iand C (v := ((nI j430) &&& v470)) dX11_plan_91 rfl rfl ?_
          refine x_any (fun v471 => ?_)
          refine x_if_ne C (tgt := 109) dX11_plan_92 (by decide) rfl (fun c472 => ?_) (fun c472 => ?_)
          · skip
            refine x_iconst C (v := (-1)) dX11_plan_109 (by decide) rfl ?_
            exact x_zret C hr hlk rfl dX11_plan_110 ⟨hW, kp0⟩
          · skip
            refine x_iload_n C dX11_plan_95 rfl 6 rfl rfl ?_
            refine x_iconst C (v := 0) dX11_plan_96 (by decide) rfl ?_
            refine x_iconst C (v := 1) dX11_plan_97 (by decide) rfl ?_
            refine x_si C (As := [.int p2, .int 0, .int 1]) (rest := []) (c_isWithin E l a ws hW p2 (0 : Int32) (1 : Int32)) mf_X11_isWithin w_462 rfl rfl (Nat.le_of_ble_eq_true rfl) ⟨(Nat.le_of_ble_eq_true rfl), (Nat.le_of_ble_eq_true rfl)⟩ ⟨(Nat.le_of_ble_eq_true rfl), (Nat.le_of_ble_eq_true rfl)⟩ dX11_plan_98 rfl (fun r474 w475 h473 => ?_)
            obtain ⟨hW476, zb477, x478⟩ := h473
            refine x_ws hW476 ?_
            refine x_if_ne C (tgt := 111) dX11_plan_101 (by decide) rfl (fun c479 => ?_) (fun c479 => ?_)
            · skip
              obtain ⟨j480, hl481, hh482, ej483⟩ := w_nat (a := 0) (b := 1) (by decide) (by decide) (x478 c479)
              subst ej483
              refine x_iconst C (v := 0) dX11_plan_111 (by decide) rfl ?_
              refine x_istore C (lv' := [(7, .int 0), (6, .int 0), (5, .int (nI j466)), (4, .int v12), (0, .ref (a 0)), (1, .int (nI j455)), (2, .int (nI j430)), (3, .int (nI j480))]) dX11_plan_112 (by decide) rfl rfl ?_
              have loop114 : ∀ (fu114 : Nat) (i : Nat), True → 8 - i < fu114 → i ≤ 8 → X E p l e (xRm 8 0 0) s m ([.ref (a 0), .int (nI j455), .int (nI j430), .int (nI j480)] : List Value).toArray below meth c A 8 0 0 (MQ below (va_Qi (fun r w => WX (okX E a) w ∧ keeps ws w (fun q => ¬ (q = 0 ∨ q = 6 ∨ q = 9 ∨ q = 28 ∨ q = 31))) (xB E A) A) ([.ref (a 0), .int (nI j455), .int (nI j430), .int (nI j480)] : List Value).toArray s 0 0 A) ws 114 [(0, .ref (a 0)), (1, .int (nI j455)), (2, .int (nI j430)), (3, .int (nI j480)), (4, .int v12), (5, .int (nI j466)), (6, .int 0), (7, .int (nI i))] [] := by
                intro fu114
                induction fu114 with
                | zero => intro i _ q; omega
                | succ fu114 ih114 =>
                  intro i _ me114 iv114_0
                  refine x_iload C dX11_plan_114 7 rfl rfl ?_
                  refine x_bipush C (v := 8) dX11_plan_116 (by decide) rfl ?_
                  refine x_icmp_ge C (tgt := 154) dX11_plan_118 (by decide) rfl (fun c484 => ?_) (fun c484 => ?_)
                  · skip
                    have nf485 := nI_le' (a := 8) (b := i) c484 (by omega) (by omega)
                    refine x_aload_n C dX11_plan_154 rfl 0 rfl rfl ?_
                    refine x_get C (ci := 10) (k := 9) 0 k1 rfl in_X11 (by decide) w_394 rfl dX11_plan_155 rfl ?_
                    refine x_aload_n C dX11_plan_158 rfl 0 rfl rfl ?_
                    refine x_get C (ci := 10) (k := 2) 0 k1 rfl in_X11 (by decide) w_387 rfl dX11_plan_159 rfl ?_
                    refine x_aload_n C dX11_plan_162 rfl 0 rfl rfl ?_
                    refine x_get C (ci := 10) (k := 6) 0 k1 rfl in_X11 (by decide) w_391 rfl dX11_plan_163 rfl ?_
                    refine x_iload_n C dX11_plan_166 rfl 1 rfl rfl ?_
                    refine x_iload_n C dX11_plan_167 rfl 2 rfl rfl ?_
                    obtain ⟨_, k486, n487, n489, v491, bn488, bn490, rfl⟩ := hW 92 _ rfl
                    refine x_vv C (As := [.ref (a 5), .ref (a 71), .int (nI j455), .int (nI j430)]) (rest := []) (c_planFind E l a ws hW 5 (Or.inl rfl) ((nI j455)) ((nI j430))) mf_X6_find w_910 92 k486 rfl rfl rfl (Nat.le_of_ble_eq_true rfl) ⟨(Nat.le_of_ble_eq_true rfl), (Nat.le_of_ble_eq_true rfl)⟩ ⟨(Nat.le_of_ble_eq_true rfl), (Nat.le_of_ble_eq_true rfl)⟩ dX11_plan_168 rfl (fun w494 h492 => ?_)
                    obtain ⟨hW495, kq496⟩ := h492
                    have k497 : w494[0]? = some (ob (a 0) 10 [.ref (a 1), .ref (a 3), .ref (a 5), .ref (a 27), .ref (a 49), .int v2, .ref (a 71), .ref (a 79), .ref (a 87), .ref (a 92), .ref (a 103), .ref (a 105), .ref (a 106), .ref (a 107), .ref (a 108), .ref (a 109), .ref (a 110), .ref (a 111), .ref (a 112)]) := keeps_at kq496 k1 (by first | decide | omega | (dsimp only; omega))
                    have k498 : w494[5]? = some (ob (a 5) 8 [.int (nI n4), .int v6, .ref (a 6), .ref (a 9), .ref (a 14), .ref (a 21), .int v7, .int v8, .int v9, .int v10]) := keeps_at kq496 k3 (by first | decide | omega | (dsimp only; omega))
                    have k499 : w494[21]? = some (ob (a 21) 9 [.int v12, .ref (a 22), .ref (a 23), .ref (a 24), .ref (a 25), .ref (a 26)]) := keeps_at kq496 k11 (by first | decide | omega | (dsimp only; omega))
                    have k500 : w494[9]? = some (ob (a 9) 4 [.int v447, .ref (a 10), .ref (a 11), .ref (a 12), .ref (a 13)]) := keeps_at kq496 k446 (by first | decide | omega | (dsimp only; omega))
                    have kp501 := keeps_tr kp0 kq496 (fun q hq => by first | omega | (dsimp only at *; omega))
                    refine x_iload_n C dX11_plan_171 rfl 3 rfl rfl ?_
                    refine x_if_ne C (tgt := 183) dX11_plan_172 (by decide) rfl (fun c502 => ?_) (fun c502 => ?_)
                    · skip
                      have nf503 : ¬ j480 = 0 := fun q => c502 (congrArg nI q)
                      refine x_iload_n C dX11_plan_183 rfl 3 rfl rfl ?_
                      refine x_iconst C (v := 1) dX11_plan_184 (by decide) rfl ?_
                      refine x_icmp_ne C (tgt := 198) dX11_plan_185 (by decide) rfl (fun c504 => ?_) (fun c504 => ?_)
                      · skip
                        have nf505 : ¬ j480 = 1 := fun q => c504 (congrArg nI q)
                        refine x_aload_n C dX11_plan_198 rfl 0 rfl rfl ?_
                        refine x_get C (ci := 10) (k := 9) 0 k497 rfl in_X11 (by decide) w_394 rfl dX11_plan_199 rfl ?_
                        refine x_iload_n C dX11_plan_202 rfl 3 rfl rfl ?_
                        refine x_bipush C (v := 10) dX11_plan_203 (by decide) rfl ?_
                        refine x_isub C (v := ((nI j480) - (10 : Int32))) dX11_plan_205 rfl rfl ?_
                        refine x_any (fun v506 => ?_)
                        obtain ⟨_, k507, n508, n510, v512, bn509, bn511, rfl⟩ := hW495 92 _ rfl
                        refine x_vi C (As := [.int v506]) (rest := []) (c_rowOf E l a w494 hW495 v506) mf_X6_rowOf w_950 92 k507 rfl rfl rfl (Nat.le_of_ble_eq_true rfl) ⟨(Nat.le_of_ble_eq_true rfl), (Nat.le_of_ble_eq_true rfl)⟩ ⟨(Nat.le_of_ble_eq_true rfl), (Nat.le_of_ble_eq_true rfl)⟩ dX11_plan_206 rfl (fun r514 w515 h513 => ?_)
                        have hW516 := h513
                        refine x_ws hW516 ?_
                        exact x_zret C hr hlk rfl dX11_plan_209 ⟨hW495, kp501⟩
                      · skip
                        have nf517 : j480 = 1 := (nI_eq (by omega) (by omega)).mp c504
                        refine x_aload_n C dX11_plan_188 rfl 0 rfl rfl ?_
                        refine x_get C (ci := 10) (k := 9) 0 k497 rfl in_X11 (by decide) w_394 rfl dX11_plan_189 rfl ?_
                        obtain ⟨_, k518, n519, n521, v523, bn520, bn522, rfl⟩ := hW495 92 _ rfl
                        refine x_vi C (As := []) (rest := []) (c_bestEggs E l a w494 hW495) mf_X6_bestEggs w_945 92 k518 rfl rfl rfl (Nat.le_of_ble_eq_true rfl) ⟨(Nat.le_of_ble_eq_true rfl), (Nat.le_of_ble_eq_true rfl)⟩ ⟨(Nat.le_of_ble_eq_true rfl), (Nat.le_of_ble_eq_true rfl)⟩ dX11_plan_192 rfl (fun r525 w526 h524 => ?_)
                        have hW527 := h524
                        refine x_ws hW527 ?_
                        refine x_goto C (tgt := 209) dX11_plan_195 (by decide) ?_
                        exact x_zret C hr hlk rfl dX11_plan_209 ⟨hW495, kp501⟩
                    · skip
                      have nf528 : j480 = 0 := (nI_eq (by omega) (by omega)).mp c502
                      refine x_aload_n C dX11_plan_175 rfl 0 rfl rfl ?_
                      refine x_get C (ci := 10) (k := 9) 0 k497 rfl in_X11 (by decide) w_394 rfl dX11_plan_176 rfl ?_
                      obtain ⟨_, k529, n530, n532, v534, bn531, bn533, rfl⟩ := hW495 92 _ rfl
                      refine x_vi C (As := []) (rest := []) (c_bestWorth E l a w494 hW495) mf_X6_bestWorth w_941 92 k529 rfl rfl rfl (Nat.le_of_ble_eq_true rfl) ⟨(Nat.le_of_ble_eq_true rfl), (Nat.le_of_ble_eq_true rfl)⟩ ⟨(Nat.le_of_ble_eq_true rfl), (Nat.le_of_ble_eq_true rfl)⟩ dX11_plan_179 rfl (fun r536 w537 h535 => ?_)
                      have hW538 := h535
                      refine x_ws hW538 ?_
                      exact x_zret C hr hlk rfl dX11_plan_182 ⟨hW495, kp501⟩
                  · skip
                    have nf539 := nI_nle' (a := 8) (b := i) c484 (by omega) (by omega)
                    refine x_iload_n C dX11_plan_121 rfl 2 rfl rfl ?_
                    refine x_iload C dX11_plan_122 7 rfl rfl ?_
                    refine x_si C (As := [.int (nI j430), .int (nI i)]) (rest := []) (c_isIn E l a ws hW ((nI j430)) ((nI i))) mf_X11_isIn w_909 rfl rfl (Nat.le_of_ble_eq_true rfl) ⟨(Nat.le_of_ble_eq_true rfl), (Nat.le_of_ble_eq_true rfl)⟩ ⟨(Nat.le_of_ble_eq_true rfl), (Nat.le_of_ble_eq_true rfl)⟩ dX11_plan_124 rfl (fun r541 w542 h540 => ?_)
                    obtain ⟨hW543, zb544, x545⟩ := h540
                    refine x_ws hW543 ?_
                    refine x_if_eq C (tgt := 148) dX11_plan_127 (by decide) rfl (fun c546 => ?_) (fun c546 => ?_)
                    · skip
                      refine x_iinc C (v := (nI (i + 1))) (lv' := [(7, .int (nI (i + 1))), (0, .ref (a 0)), (1, .int (nI j455)), (2, .int (nI j430)), (3, .int (nI j480)), (4, .int v12), (5, .int (nI j466)), (6, .int 0)]) dX11_plan_148 7 rfl (nI_add i 1) (by decide) rfl rfl ?_
                      refine x_goto C (tgt := 114) dX11_plan_151 (by decide) ?_
                      refine x_lv (lv1 := [(0, .ref (a 0)), (1, .int (nI j455)), (2, .int (nI j430)), (3, .int (nI j480)), (4, .int v12), (5, .int (nI j466)), (6, .int 0), (7, .int (nI (i + 1)))]) [1, 2, 3, 4, 5, 6, 7, 0] rfl ?_
                      exact ih114 (i + 1) trivial (by omega) (by omega)
                    · skip
                      have wi547 := wth_le (a := 0) (b := 7) (j := i) (x545 c546) (by omega) (by decide) (by decide)
                      refine x_aload_n C dX11_plan_130 rfl 0 rfl rfl ?_
                      refine x_get C (ci := 10) (k := 2) 0 k1 rfl in_X11 (by decide) w_387 rfl dX11_plan_131 rfl ?_
                      refine x_get C (ci := 8) (k := 5) 5 k3 rfl in_X9 (by decide) w_213 rfl dX11_plan_134 rfl ?_
                      refine x_iload C dX11_plan_137 7 rfl rfl ?_
                      refine x_vi C (As := [.int (nI i)]) (rest := []) (c_Works_isDone E l a ws hW 5 (Or.inl rfl) ((nI i))) mf_X10_isDone w_894 21 k11 rfl rfl rfl (Nat.le_of_ble_eq_true rfl) ⟨(Nat.le_of_ble_eq_true rfl), (Nat.le_of_ble_eq_true rfl)⟩ ⟨(Nat.le_of_ble_eq_true rfl), (Nat.le_of_ble_eq_true rfl)⟩ dX11_plan_139 rfl (fun r549 w550 h548 => ?_)
                      obtain ⟨hW551, zb552, x553⟩ := h548
                      refine x_ws hW551 ?_
                      refine x_if_eq C (tgt := 148) dX11_plan_142 (by decide) rfl (fun c554 => ?_) (fun c554 => ?_)
                      · skip
                        refine x_iinc C (v := (nI (i + 1))) (lv' := [(7, .int (nI (i + 1))), (0, .ref (a 0)), (1, .int (nI j455)), (2, .int (nI j430)), (3, .int (nI j480)), (4, .int v12), (5, .int (nI j466)), (6, .int 0)]) dX11_plan_148 7 rfl (nI_add i 1) (by decide) rfl rfl ?_
                        refine x_goto C (tgt := 114) dX11_plan_151 (by decide) ?_
                        refine x_lv (lv1 := [(0, .ref (a 0)), (1, .int (nI j455)), (2, .int (nI j430)), (3, .int (nI j480)), (4, .int v12), (5, .int (nI j466)), (6, .int 0), (7, .int (nI (i + 1)))]) [1, 2, 3, 4, 5, 6, 7, 0] rfl ?_
                        exact ih114 (i + 1) trivial (by omega) (by omega)
                      · skip
                        have wi555 := wth_le (a := 0) (b := 7) (j := i) (x553 c554) (by omega) (by decide) (by decide)
                        refine x_bipush C (v := (-2)) dX11_plan_145 (by decide) rfl ?_
                        exact x_zret C hr hlk rfl dX11_plan_147 ⟨hW, kp0⟩
              refine x_lv (lv1 := [(0, .ref (a 0)), (1, .int (nI j455)), (2, .int (nI j430)), (3, .int (nI j480)), (4, .int v12), (5, .int (nI j466)), (6, .int 0), (7, .int 0)]) [4, 5, 6, 7, 3, 2, 1, 0] rfl ?_
              exact loop114 _ 0 trivial (Nat.lt_succ_self _) (by omega)
            · skip
              refine x_iload C dX11_plan_104 0 rfl rfl ?_
              refine x_if_ne C (tgt := 111) dX11_plan_106 (by decide) rfl (fun h => absurd h (by decide)) (fun _ => ?_)
              refine x_iconst C (v := (-1)) dX11_plan_109 (by decide) rfl ?_
              exact x_zret C hr hlk rfl dX11_plan_110 ⟨hW, kp0⟩
    · skip
      obtain ⟨j556, hl557, hh558, ej559⟩ := w_nat (a := 10) (b := 17) (by decide) (by decide) (x444 c445)
      subst ej559
      refine x_iload_n C dX11_plan_44 rfl 4 rfl rfl ?_
      refine x_iload_n C dX11_plan_45 rfl 5 rfl rfl ?_
      refine x_bipush C (v := 10) dX11_plan_46 (by decide) rfl ?_
      refine x_isub C (v := ((nI j556) - (10 : Int32))) dX11_plan_48 rfl rfl ?_
      refine x_any (fun v560 => ?_)
      refine x_si C (As := [.int (nI j430), .int v560]) (rest := []) (c_isIn E l a ws hW ((nI j430)) v560) mf_X11_isIn w_909 rfl rfl (Nat.le_of_ble_eq_true rfl) ⟨(Nat.le_of_ble_eq_true rfl), (Nat.le_of_ble_eq_true rfl)⟩ ⟨(Nat.le_of_ble_eq_true rfl), (Nat.le_of_ble_eq_true rfl)⟩ dX11_plan_49 rfl (fun r562 w563 h561 => ?_)
      obtain ⟨hW564, zb565, x566⟩ := h561
      refine x_ws hW564 ?_
      refine x_if_eq C (tgt := 59) dX11_plan_52 (by decide) rfl (fun c567 => ?_) (fun c567 => ?_)
      · skip
        refine x_iconst C (v := 0) dX11_plan_59 (by decide) rfl ?_
        refine x_istore C (lv' := [(6, .int 0), (5, .int r435), (4, .int v12), (0, .ref (a 0)), (1, .int p0), (2, .int (nI j430)), (3, .int (nI j556))]) dX11_plan_60 (by decide) rfl rfl ?_
        refine x_aload_n C dX11_plan_62 rfl 3 rfl rfl ?_
        refine x_get C (ci := 10) (k := 2) 0 k1 rfl in_X11 (by decide) w_387 rfl dX11_plan_63 rfl ?_
        refine x_get C (ci := 8) (k := 3) 5 k3 rfl in_X9 (by decide) w_204 rfl dX11_plan_66 rfl ?_
        refine x_iload_n C dX11_plan_69 rfl 4 rfl rfl ?_
        obtain ⟨_, k568, v569, rfl⟩ := hW 9 _ rfl
        refine x_vi C (As := [.int p0]) (rest := []) (c_People_isTold E l a ws hW 5 (Or.inl rfl) p0) mf_X5_isTold w_465 9 k568 rfl rfl rfl (Nat.le_of_ble_eq_true rfl) ⟨(Nat.le_of_ble_eq_true rfl), (Nat.le_of_ble_eq_true rfl)⟩ ⟨(Nat.le_of_ble_eq_true rfl), (Nat.le_of_ble_eq_true rfl)⟩ dX11_plan_70 rfl (fun r571 w572 h570 => ?_)
        obtain ⟨hW573, zb574, x575⟩ := h570
        refine x_ws hW573 ?_
        refine x_if_eq C (tgt := 109) dX11_plan_73 (by decide) rfl (fun c576 => ?_) (fun c576 => ?_)
        · skip
          refine x_iconst C (v := (-1)) dX11_plan_109 (by decide) rfl ?_
          exact x_zret C hr hlk rfl dX11_plan_110 ⟨hW, kp0⟩
        · skip
          obtain ⟨j577, hl578, hh579, ej580⟩ := w_nat (a := 0) (b := 7) (by decide) (by decide) (x575 c576)
          subst ej580
          refine x_iload C dX11_plan_76 1 rfl rfl ?_
          refine x_iconst C (v := 1) dX11_plan_78 (by decide) rfl ?_
          refine x_iconst C (v := 4) dX11_plan_79 (by decide) rfl ?_
          refine x_si C (As := [.int r435, .int 1, .int 4]) (rest := []) (c_isWithin E l a ws hW r435 (1 : Int32) (4 : Int32)) mf_X11_isWithin w_462 rfl rfl (Nat.le_of_ble_eq_true rfl) ⟨(Nat.le_of_ble_eq_true rfl), (Nat.le_of_ble_eq_true rfl)⟩ ⟨(Nat.le_of_ble_eq_true rfl), (Nat.le_of_ble_eq_true rfl)⟩ dX11_plan_80 rfl (fun r582 w583 h581 => ?_)
          obtain ⟨hW584, zb585, x586⟩ := h581
          refine x_ws hW584 ?_
          refine x_if_eq C (tgt := 109) dX11_plan_83 (by decide) rfl (fun c587 => ?_) (fun c587 => ?_)
          · skip
            refine x_iconst C (v := (-1)) dX11_plan_109 (by decide) rfl ?_
            exact x_zret C hr hlk rfl dX11_plan_110 ⟨hW, kp0⟩
          · skip
            obtain ⟨j588, hl589, hh590, ej591⟩ := w_nat (a := 1) (b := 4) (by decide) (by decide) (x586 c587)
            subst ej591
            refine x_iload_n C dX11_plan_86 rfl 5 rfl rfl ?_
            refine x_iload C dX11_plan_87 2 rfl rfl ?_
            refine x_iconst C (v := (-1)) dX11_plan_89 (by decide) rfl ?_
            refine x_ixor C (v := (v12 ^^^ ((-1) : Int32))) dX11_plan_90 rfl rfl ?_
            refine x_any (fun v592 => ?_)
            refine x_iand C (v := ((nI j430) &&& v592)) dX11_plan_91 rfl rfl ?_
            refine x_any (fun v593 => ?_)
            refine x_if_ne C (tgt := 109) dX11_plan_92 (by decide) rfl (fun c594 => ?_) (fun c594 => ?_)
            · skip
              refine x_iconst C (v := (-1)) dX11_plan_109 (by decide) rfl ?_
              exact x_zret C hr hlk rfl dX11_plan_110 ⟨hW, kp0⟩
            · skip
              refine x_iload_n C dX11_plan_95 rfl 6 rfl rfl ?_
              refine x_iconst C (v := 0) dX11_plan_96 (by decide) rfl ?_
              refine x_iconst C (v := 1) dX11_plan_97 (by decide) rfl ?_
              refine x_si C (As := [.int (nI j556), .int 0, .int 1]) (rest := []) (c_isWithin E l a ws hW ((nI j556)) (0 : Int32) (1 : Int32)) mf_X11_isWithin w_462 rfl rfl (Nat.le_of_ble_eq_true rfl) ⟨(Nat.le_of_ble_eq_true rfl), (Nat.le_of_ble_eq_true rfl)⟩ ⟨(Nat.le_of_ble_eq_true rfl), (Nat.le_of_ble_eq_true rfl)⟩ dX11_plan_98 rfl (fun r596 w597 h595 => ?_)
              obtain ⟨hW598, zb599, x600⟩ := h595
              refine x_ws hW598 ?_
              refine x_if_ne C (tgt := 111) dX11_plan_101 (by decide) rfl (fun c601 => ?_) (fun c601 => ?_)
              · skip
                have wi602 := x600 c601
                refine x_iconst C (v := 0) dX11_plan_111 (by decide) rfl ?_
                refine x_istore C (lv' := [(7, .int 0), (6, .int 0), (5, .int (nI j588)), (4, .int v12), (0, .ref (a 0)), (1, .int (nI j577)), (2, .int (nI j430)), (3, .int (nI j556))]) dX11_plan_112 (by decide) rfl rfl ?_
                have loop114 : ∀ (fu114 : Nat) (i : Nat), True → 8 - i < fu114 → i ≤ 8 → X E p l e (xRm 8 0 0) s m ([.ref (a 0), .int (nI j577), .int (nI j430), .int (nI j556)] : List Value).toArray below meth c A 8 0 0 (MQ below (va_Qi (fun r w => WX (okX E a) w ∧ keeps ws w (fun q => ¬ (q = 0 ∨ q = 6 ∨ q = 9 ∨ q = 28 ∨ q = 31))) (xB E A) A) ([.ref (a 0), .int (nI j577), .int (nI j430), .int (nI j556)] : List Value).toArray s 0 0 A) ws 114 [(0, .ref (a 0)), (1, .int (nI j577)), (2, .int (nI j430)), (3, .int (nI j556)), (4, .int v12), (5, .int (nI j588)), (6, .int 0), (7, .int (nI i))] [] := by
                  intro fu114
                  induction fu114 with
                  | zero => intro i _ q; omega
                  | succ fu114 ih114 =>
                    intro i _ me114 iv114_0
                    refine x_iload C dX11_plan_114 7 rfl rfl ?_
                    refine x_bipush C (v := 8) dX11_plan_116 (by decide) rfl ?_
                    refine x_icmp_ge C (tgt := 154) dX11_plan_118 (by decide) rfl (fun c603 => ?_) (fun c603 => ?_)
                    · skip
                      have nf604 := nI_le' (a := 8) (b := i) c603 (by omega) (by omega)
                      refine x_aload_n C dX11_plan_154 rfl 0 rfl rfl ?_
                      refine x_get C (ci := 10) (k := 9) 0 k1 rfl in_X11 (by decide) w_394 rfl dX11_plan_155 rfl ?_
                      refine x_aload_n C dX11_plan_158 rfl 0 rfl rfl ?_
                      refine x_get C (ci := 10) (k := 2) 0 k1 rfl in_X11 (by decide) w_387 rfl dX11_plan_159 rfl ?_
                      refine x_aload_n C dX11_plan_162 rfl 0 rfl rfl ?_
                      refine x_get C (ci := 10) (k := 6) 0 k1 rfl in_X11 (by decide) w_391 rfl dX11_plan_163 rfl ?_
                      refine x_iload_n C dX11_plan_166 rfl 1 rfl rfl ?_
                      refine x_iload_n C dX11_plan_167 rfl 2 rfl rfl ?_
                      obtain ⟨_, k605, n606, n608, v610, bn607, bn609, rfl⟩ := hW 92 _ rfl
                      refine x_vv C (As := [.ref (a 5), .ref (a 71), .int (nI j577), .int (nI j430)]) (rest := []) (c_planFind E l a ws hW 5 (Or.inl rfl) ((nI j577)) ((nI j430))) mf_X6_find w_910 92 k605 rfl rfl rfl (Nat.le_of_ble_eq_true rfl) ⟨(Nat.le_of_ble_eq_true rfl), (Nat.le_of_ble_eq_true rfl)⟩ ⟨(Nat.le_of_ble_eq_true rfl), (Nat.le_of_ble_eq_true rfl)⟩ dX11_plan_168 rfl (fun w613 h611 => ?_)
                      obtain ⟨hW614, kq615⟩ := h611
                      have k616 : w613[0]? = some (ob (a 0) 10 [.ref (a 1), .ref (a 3), .ref (a 5), .ref (a 27), .ref (a 49), .int v2, .ref (a 71), .ref (a 79), .ref (a 87), .ref (a 92), .ref (a 103), .ref (a 105), .ref (a 106), .ref (a 107), .ref (a 108), .ref (a 109), .ref (a 110), .ref (a 111), .ref (a 112)]) := keeps_at kq615 k1 (by first | decide | omega | (dsimp only; omega))
                      have k617 : w613[5]? = some (ob (a 5) 8 [.int (nI n4), .int v6, .ref (a 6), .ref (a 9), .ref (a 14), .ref (a 21), .int v7, .int v8, .int v9, .int v10]) := keeps_at kq615 k3 (by first | decide | omega | (dsimp only; omega))
                      have k618 : w613[21]? = some (ob (a 21) 9 [.int v12, .ref (a 22), .ref (a 23), .ref (a 24), .ref (a 25), .ref (a 26)]) := keeps_at kq615 k11 (by first | decide | omega | (dsimp only; omega))
                      have k619 : w613[9]? = some (ob (a 9) 4 [.int v569, .ref (a 10), .ref (a 11), .ref (a 12), .ref (a 13)]) := keeps_at kq615 k568 (by first | decide | omega | (dsimp only; omega))
                      have kp620 := keeps_tr kp0 kq615 (fun q hq => by first | omega | (dsimp only at *; omega))
                      refine x_iload_n C dX11_plan_171 rfl 3 rfl rfl ?_
                      refine x_if_ne C (tgt := 183) dX11_plan_172 (by decide) rfl (fun c621 => ?_) (fun c621 => ?_)
                      · skip
                        have nf622 : ¬ j556 = 0 := fun q => c621 (congrArg nI q)
                        refine x_iload_n C dX11_plan_183 rfl 3 rfl rfl ?_
                        refine x_iconst C (v := 1) dX11_plan_184 (by decide) rfl ?_
                        refine x_icmp_ne C (tgt := 198) dX11_plan_185 (by decide) rfl (fun c623 => ?_) (fun c623 => ?_)
                        · skip
                          have nf624 : ¬ j556 = 1 := fun q => c623 (congrArg nI q)
                          refine x_aload_n C dX11_plan_198 rfl 0 rfl rfl ?_
                          refine x_get C (ci := 10) (k := 9) 0 k616 rfl in_X11 (by decide) w_394 rfl dX11_plan_199 rfl ?_
                          refine x_iload_n C dX11_plan_202 rfl 3 rfl rfl ?_
                          refine x_bipush C (v := 10) dX11_plan_203 (by decide) rfl ?_
                          refine x_isub C (v := ((nI j556) - (10 : Int32))) dX11_plan_205 rfl rfl ?_
                          refine x_any (fun v625 => ?_)
                          obtain ⟨_, k626, n627, n629, v631, bn628, bn630, rfl⟩ := hW614 92 _ rfl
                          refine x_vi C (As := [.int v625]) (rest := []) (c_rowOf E l a w613 hW614 v625) mf_X6_rowOf w_950 92 k626 rfl rfl rfl (Nat.le_of_ble_eq_true rfl) ⟨(Nat.le_of_ble_eq_true rfl), (Nat.le_of_ble_eq_true rfl)⟩ ⟨(Nat.le_of_ble_eq_true rfl), (Nat.le_of_ble_eq_true rfl)⟩ dX11_plan_206 rfl (fun r633 w634 h632 => ?_)
                          have hW635 := h632
                          refine x_ws hW635 ?_
                          exact x_zret C hr hlk rfl dX11_plan_209 ⟨hW614, kp620⟩
                        · skip
                          have nf636 : j556 = 1 := (nI_eq (by omega) (by omega)).mp c623
                          refine x_aload_n C dX11_plan_188 rfl 0 rfl rfl ?_
                          refine x_get C (ci := 10) (k := 9) 0 k616 rfl in_X11 (by decide) w_394 rfl dX11_plan_189 rfl ?_
                          obtain ⟨_, k637, n638, n640, v642, bn639, bn641, rfl⟩ := hW614 92 _ rfl
                          refine x_vi C (As := []) (rest := []) (c_bestEggs E l a w613 hW614) mf_X6_bestEggs w_945 92 k637 rfl rfl rfl (Nat.le_of_ble_eq_true rfl) ⟨(Nat.le_of_ble_eq_true rfl), (Nat.le_of_ble_eq_true rfl)⟩ ⟨(Nat.le_of_ble_eq_true rfl), (Nat.le_of_ble_eq_true rfl)⟩ dX11_plan_192 rfl (fun r644 w645 h643 => ?_)
                          have hW646 := h643
                          refine x_ws hW646 ?_
                          refine x_goto C (tgt := 209) dX11_plan_195 (by decide) ?_
                          exact x_zret C hr hlk rfl dX11_plan_209 ⟨hW614, kp620⟩
                      · skip
                        have nf647 : j556 = 0 := (nI_eq (by omega) (by omega)).mp c621
                        refine x_aload_n C dX11_plan_175 rfl 0 rfl rfl ?_
                        refine x_get C (ci := 10) (k := 9) 0 k616 rfl in_X11 (by decide) w_394 rfl dX11_plan_176 rfl ?_
                        obtain ⟨_, k648, n649, n651, v653, bn650, bn652, rfl⟩ := hW614 92 _ rfl
                        refine x_vi C (As := []) (rest := []) (c_bestWorth E l a w613 hW614) mf_X6_bestWorth w_941 92 k648 rfl rfl rfl (Nat.le_of_ble_eq_true rfl) ⟨(Nat.le_of_ble_eq_true rfl), (Nat.le_of_ble_eq_true rfl)⟩ ⟨(Nat.le_of_ble_eq_true rfl), (Nat.le_of_ble_eq_true rfl)⟩ dX11_plan_179 rfl (fun r655 w656 h654 => ?_)
                        have hW657 := h654
                        refine x_ws hW657 ?_
                        exact x_zret C hr hlk rfl dX11_plan_182 ⟨hW614, kp620⟩
                    · skip
                      have nf658 := nI_nle' (a := 8) (b := i) c603 (by omega) (by omega)
                      refine x_iload_n C dX11_plan_121 rfl 2 rfl rfl ?_
                      refine x_iload C dX11_plan_122 7 rfl rfl ?_
                      refine x_si C (As := [.int (nI j430), .int (nI i)]) (rest := []) (c_isIn E l a ws hW ((nI j430)) ((nI i))) mf_X11_isIn w_909 rfl rfl (Nat.le_of_ble_eq_true rfl) ⟨(Nat.le_of_ble_eq_true rfl), (Nat.le_of_ble_eq_true rfl)⟩ ⟨(Nat.le_of_ble_eq_true rfl), (Nat.le_of_ble_eq_true rfl)⟩ dX11_plan_124 rfl (fun r660 w661 h659 => ?_)
                      obtain ⟨hW662, zb663, x664⟩ := h659
                      refine x_ws hW662 ?_
                      refine x_if_eq C (tgt := 148) dX11_plan_127 (by decide) rfl (fun c665 => ?_) (fun c665 => ?_)
                      · skip
                        refine x_iinc C (v := (nI (i + 1))) (lv' := [(7, .int (nI (i + 1))), (0, .ref (a 0)), (1, .int (nI j577)), (2, .int (nI j430)), (3, .int (nI j556)), (4, .int v12), (5, .int (nI j588)), (6, .int 0)]) dX11_plan_148 7 rfl (nI_add i 1) (by decide) rfl rfl ?_
                        refine x_goto C (tgt := 114) dX11_plan_151 (by decide) ?_
                        refine x_lv (lv1 := [(0, .ref (a 0)), (1, .int (nI j577)), (2, .int (nI j430)), (3, .int (nI j556)), (4, .int v12), (5, .int (nI j588)), (6, .int 0), (7, .int (nI (i + 1)))]) [1, 2, 3, 4, 5, 6, 7, 0] rfl ?_
                        exact ih114 (i + 1) trivial (by omega) (by omega)
                      · skip
                        have wi666 := wth_le (a := 0) (b := 7) (j := i) (x664 c665) (by omega) (by decide) (by decide)
                        refine x_aload_n C dX11_plan_130 rfl 0 rfl rfl ?_
                        refine x_get C (ci := 10) (k := 2) 0 k1 rfl in_X11 (by decide) w_387 rfl dX11_plan_131 rfl ?_
                        refine x_get C (ci := 8) (k := 5) 5 k3 rfl in_X9 (by decide) w_213 rfl dX11_plan_134 rfl ?_
                        refine x_iload C dX11_plan_137 7 rfl rfl ?_
                        refine x_vi C (As := [.int (nI i)]) (rest := []) (c_Works_isDone E l a ws hW 5 (Or.inl rfl) ((nI i))) mf_X10_isDone w_894 21 k11 rfl rfl rfl (Nat.le_of_ble_eq_true rfl) ⟨(Nat.le_of_ble_eq_true rfl), (Nat.le_of_ble_eq_true rfl)⟩ ⟨(Nat.le_of_ble_eq_true rfl), (Nat.le_of_ble_eq_true rfl)⟩ dX11_plan_139 rfl (fun r668 w669 h667 => ?_)
                        obtain ⟨hW670, zb671, x672⟩ := h667
                        refine x_ws hW670 ?_
                        refine x_if_eq C (tgt := 148) dX11_plan_142 (by decide) rfl (fun c673 => ?_) (fun c673 => ?_)
                        · skip
                          refine x_iinc C (v := (nI (i + 1))) (lv' := [(7, .int (nI (i + 1))), (0, .ref (a 0)), (1, .int (nI j577)), (2, .int (nI j430)), (3, .int (nI j556)), (4, .int v12), (5, .int (nI j588)), (6, .int 0)]) dX11_plan_148 7 rfl (nI_add i 1) (by decide) rfl rfl ?_
                          refine x_goto C (tgt := 114) dX11_plan_151 (by decide) ?_
                          refine x_lv (lv1 := [(0, .ref (a 0)), (1, .int (nI j577)), (2, .int (nI j430)), (3, .int (nI j556)), (4, .int v12), (5, .int (nI j588)), (6, .int 0), (7, .int (nI (i + 1)))]) [1, 2, 3, 4, 5, 6, 7, 0] rfl ?_
                          exact ih114 (i + 1) trivial (by omega) (by omega)
                        · skip
                          have wi674 := wth_le (a := 0) (b := 7) (j := i) (x672 c673) (by omega) (by decide) (by decide)
                          refine x_bipush C (v := (-2)) dX11_plan_145 (by decide) rfl ?_
                          exact x_zret C hr hlk rfl dX11_plan_147 ⟨hW, kp0⟩
                refine x_lv (lv1 := [(0, .ref (a 0)), (1, .int (nI j577)), (2, .int (nI j430)), (3, .int (nI j556)), (4, .int v12), (5, .int (nI j588)), (6, .int 0), (7, .int 0)]) [4, 5, 6, 7, 3, 2, 1, 0] rfl ?_
                exact loop114 _ 0 trivial (Nat.lt_succ_self _) (by omega)
              · skip
                refine x_iload C dX11_plan_104 0 rfl rfl ?_
                refine x_if_ne C (tgt := 111) dX11_plan_106 (by decide) rfl (fun h => absurd h (by decide)) (fun _ => ?_)
                refine x_iconst C (v := (-1)) dX11_plan_109 (by decide) rfl ?_
                exact x_zret C hr hlk rfl dX11_plan_110 ⟨hW, kp0⟩
      · skip
        obtain ⟨j675, hl676, hh677, ej678⟩ := w_nat (a := 0) (b := 7) (by decide) (by decide) (x566 c567)
        subst ej678
        refine x_iconst C (v := 1) dX11_plan_55 (by decide) rfl ?_
        refine x_goto C (tgt := 60) dX11_plan_56 (by decide) ?_
        refine x_istore C (lv' := [(6, .int 1), (5, .int r435), (4, .int v12), (0, .ref (a 0)), (1, .int p0), (2, .int (nI j430)), (3, .int (nI j556))]) dX11_plan_60 (by decide) rfl rfl ?_
        refine x_aload_n C dX11_plan_62 rfl 3 rfl rfl ?_
        refine x_get C (ci := 10) (k := 2) 0 k1 rfl in_X11 (by decide) w_387 rfl dX11_plan_63 rfl ?_
        refine x_get C (ci := 8) (k := 3) 5 k3 rfl in_X9 (by decide) w_204 rfl dX11_plan_66 rfl ?_
        refine x_iload_n C dX11_plan_69 rfl 4 rfl rfl ?_
        obtain ⟨_, k679, v680, rfl⟩ := hW 9 _ rfl
        refine x_vi C (As := [.int p0]) (rest := []) (c_People_isTold E l a ws hW 5 (Or.inl rfl) p0) mf_X5_isTold w_465 9 k679 rfl rfl rfl (Nat.le_of_ble_eq_true rfl) ⟨(Nat.le_of_ble_eq_true rfl), (Nat.le_of_ble_eq_true rfl)⟩ ⟨(Nat.le_of_ble_eq_true rfl), (Nat.le_of_ble_eq_true rfl)⟩ dX11_plan_70 rfl (fun r682 w683 h681 => ?_)
        obtain ⟨hW684, zb685, x686⟩ := h681
        refine x_ws hW684 ?_
        refine x_if_eq C (tgt := 109) dX11_plan_73 (by decide) rfl (fun c687 => ?_) (fun c687 => ?_)
        · skip
          refine x_iconst C (v := (-1)) dX11_plan_109 (by decide) rfl ?_
          exact x_zret C hr hlk rfl dX11_plan_110 ⟨hW, kp0⟩
        · skip
          obtain ⟨j688, hl689, hh690, ej691⟩ := w_nat (a := 0) (b := 7) (by decide) (by decide) (x686 c687)
          subst ej691
          refine x_iload C dX11_plan_76 1 rfl rfl ?_
          refine x_iconst C (v := 1) dX11_plan_78 (by decide) rfl ?_
          refine x_iconst C (v := 4) dX11_plan_79 (by decide) rfl ?_
          refine x_si C (As := [.int r435, .int 1, .int 4]) (rest := []) (c_isWithin E l a ws hW r435 (1 : Int32) (4 : Int32)) mf_X11_isWithin w_462 rfl rfl (Nat.le_of_ble_eq_true rfl) ⟨(Nat.le_of_ble_eq_true rfl), (Nat.le_of_ble_eq_true rfl)⟩ ⟨(Nat.le_of_ble_eq_true rfl), (Nat.le_of_ble_eq_true rfl)⟩ dX11_plan_80 rfl (fun r693 w694 h692 => ?_)
          obtain ⟨hW695, zb696, x697⟩ := h692
          refine x_ws hW695 ?_
          refine x_if_eq C (tgt := 109) dX11_plan_83 (by decide) rfl (fun c698 => ?_) (fun c698 => ?_)
          · skip
            refine x_iconst C (v := (-1)) dX11_plan_109 (by decide) rfl ?_
            exact x_zret C hr hlk rfl dX11_plan_110 ⟨hW, kp0⟩
          · skip
            obtain ⟨j699, hl700, hh701, ej702⟩ := w_nat (a := 1) (b := 4) (by decide) (by decide) (x697 c698)
            subst ej702
            refine x_iload_n C dX11_plan_86 rfl 5 rfl rfl ?_
            refine x_iload C dX11_plan_87 2 rfl rfl ?_
            refine x_iconst C (v := (-1)) dX11_plan_89 (by decide) rfl ?_
            refine x_ixor C (v := (v12 ^^^ ((-1) : Int32))) dX11_plan_90 rfl rfl ?_
            refine x_any (fun v703 => ?_)
            refine x_iand C (v := ((nI j430) &&& v703)) dX11_plan_91 rfl rfl ?_
            refine x_any (fun v704 => ?_)
            refine x_if_ne C (tgt := 109) dX11_plan_92 (by decide) rfl (fun c705 => ?_) (fun c705 => ?_)
            · skip
              refine x_iconst C (v := (-1)) dX11_plan_109 (by decide) rfl ?_
              exact x_zret C hr hlk rfl dX11_plan_110 ⟨hW, kp0⟩
            · skip
              refine x_iload_n C dX11_plan_95 rfl 6 rfl rfl ?_
              refine x_iconst C (v := 0) dX11_plan_96 (by decide) rfl ?_
              refine x_iconst C (v := 1) dX11_plan_97 (by decide) rfl ?_
              refine x_si C (As := [.int (nI j556), .int 0, .int 1]) (rest := []) (c_isWithin E l a ws hW ((nI j556)) (0 : Int32) (1 : Int32)) mf_X11_isWithin w_462 rfl rfl (Nat.le_of_ble_eq_true rfl) ⟨(Nat.le_of_ble_eq_true rfl), (Nat.le_of_ble_eq_true rfl)⟩ ⟨(Nat.le_of_ble_eq_true rfl), (Nat.le_of_ble_eq_true rfl)⟩ dX11_plan_98 rfl (fun r707 w708 h706 => ?_)
              obtain ⟨hW709, zb710, x711⟩ := h706
              refine x_ws hW709 ?_
              refine x_if_ne C (tgt := 111) dX11_plan_101 (by decide) rfl (fun c712 => ?_) (fun c712 => ?_)
              · skip
                have wi713 := x711 c712
                refine x_iconst C (v := 0) dX11_plan_111 (by decide) rfl ?_
                refine x_istore C (lv' := [(7, .int 0), (6, .int 1), (5, .int (nI j699)), (4, .int v12), (0, .ref (a 0)), (1, .int (nI j688)), (2, .int (nI j430)), (3, .int (nI j556))]) dX11_plan_112 (by decide) rfl rfl ?_
                have loop114 : ∀ (fu114 : Nat) (i : Nat), True → 8 - i < fu114 → i ≤ 8 → X E p l e (xRm 8 0 0) s m ([.ref (a 0), .int (nI j688), .int (nI j430), .int (nI j556)] : List Value).toArray below meth c A 8 0 0 (MQ below (va_Qi (fun r w => WX (okX E a) w ∧ keeps ws w (fun q => ¬ (q = 0 ∨ q = 6 ∨ q = 9 ∨ q = 28 ∨ q = 31))) (xB E A) A) ([.ref (a 0), .int (nI j688), .int (nI j430), .int (nI j556)] : List Value).toArray s 0 0 A) ws 114 [(0, .ref (a 0)), (1, .int (nI j688)), (2, .int (nI j430)), (3, .int (nI j556)), (4, .int v12), (5, .int (nI j699)), (6, .int 1), (7, .int (nI i))] [] := by
                  intro fu114
                  induction fu114 with
                  | zero => intro i _ q; omega
                  | succ fu114 ih114 =>
                    intro i _ me114 iv114_0
                    refine x_iload C dX11_plan_114 7 rfl rfl ?_
                    refine x_bipush C (v := 8) dX11_plan_116 (by decide) rfl ?_
                    refine x_icmp_ge C (tgt := 154) dX11_plan_118 (by decide) rfl (fun c714 => ?_) (fun c714 => ?_)
                    · skip
                      have nf715 := nI_le' (a := 8) (b := i) c714 (by omega) (by omega)
                      refine x_aload_n C dX11_plan_154 rfl 0 rfl rfl ?_
                      refine x_get C (ci := 10) (k := 9) 0 k1 rfl in_X11 (by decide) w_394 rfl dX11_plan_155 rfl ?_
                      refine x_aload_n C dX11_plan_158 rfl 0 rfl rfl ?_
                      refine x_get C (ci := 10) (k := 2) 0 k1 rfl in_X11 (by decide) w_387 rfl dX11_plan_159 rfl ?_
                      refine x_aload_n C dX11_plan_162 rfl 0 rfl rfl ?_
                      refine x_get C (ci := 10) (k := 6) 0 k1 rfl in_X11 (by decide) w_391 rfl dX11_plan_163 rfl ?_
                      refine x_iload_n C dX11_plan_166 rfl 1 rfl rfl ?_
                      refine x_iload_n C dX11_plan_167 rfl 2 rfl rfl ?_
                      obtain ⟨_, k716, n717, n719, v721, bn718, bn720, rfl⟩ := hW 92 _ rfl
                      refine x_vv C (As := [.ref (a 5), .ref (a 71), .int (nI j688), .int (nI j430)]) (rest := []) (c_planFind E l a ws hW 5 (Or.inl rfl) ((nI j688)) ((nI j430))) mf_X6_find w_910 92 k716 rfl rfl rfl (Nat.le_of_ble_eq_true rfl) ⟨(Nat.le_of_ble_eq_true rfl), (Nat.le_of_ble_eq_true rfl)⟩ ⟨(Nat.le_of_ble_eq_true rfl), (Nat.le_of_ble_eq_true rfl)⟩ dX11_plan_168 rfl (fun w724 h722 => ?_)
                      obtain ⟨hW725, kq726⟩ := h722
                      have k727 : w724[0]? = some (ob (a 0) 10 [.ref (a 1), .ref (a 3), .ref (a 5), .ref (a 27), .ref (a 49), .int v2, .ref (a 71), .ref (a 79), .ref (a 87), .ref (a 92), .ref (a 103), .ref (a 105), .ref (a 106), .ref (a 107), .ref (a 108), .ref (a 109), .ref (a 110), .ref (a 111), .ref (a 112)]) := keeps_at kq726 k1 (by first | decide | omega | (dsimp only; omega))
                      have k728 : w724[5]? = some (ob (a 5) 8 [.int (nI n4), .int v6, .ref (a 6), .ref (a 9), .ref (a 14), .ref (a 21), .int v7, .int v8, .int v9, .int v10]) := keeps_at kq726 k3 (by first | decide | omega | (dsimp only; omega))
                      have k729 : w724[21]? = some (ob (a 21) 9 [.int v12, .ref (a 22), .ref (a 23), .ref (a 24), .ref (a 25), .ref (a 26)]) := keeps_at kq726 k11 (by first | decide | omega | (dsimp only; omega))
                      have k730 : w724[9]? = some (ob (a 9) 4 [.int v680, .ref (a 10), .ref (a 11), .ref (a 12), .ref (a 13)]) := keeps_at kq726 k679 (by first | decide | omega | (dsimp only; omega))
                      have kp731 := keeps_tr kp0 kq726 (fun q hq => by first | omega | (dsimp only at *; omega))
                      refine x_iload_n C dX11_plan_171 rfl 3 rfl rfl ?_
                      refine x_if_ne C (tgt := 183) dX11_plan_172 (by decide) rfl (fun c732 => ?_) (fun c732 => ?_)
                      · skip
                        have nf733 : ¬ j556 = 0 := fun q => c732 (congrArg nI q)
                        refine x_iload_n C dX11_plan_183 rfl 3 rfl rfl ?_
                        refine x_iconst C (v := 1) dX11_plan_184 (by decide) rfl ?_
                        refine x_icmp_ne C (tgt := 198) dX11_plan_185 (by decide) rfl (fun c734 => ?_) (fun c734 => ?_)
                        · skip
                          have nf735 : ¬ j556 = 1 := fun q => c734 (congrArg nI q)
                          refine x_aload_n C dX11_plan_198 rfl 0 rfl rfl ?_
                          refine x_get C (ci := 10) (k := 9) 0 k727 rfl in_X11 (by decide) w_394 rfl dX11_plan_199 rfl ?_
                          refine x_iload_n C dX11_plan_202 rfl 3 rfl rfl ?_
                          refine x_bipush C (v := 10) dX11_plan_203 (by decide) rfl ?_
                          refine x_isub C (v := ((nI j556) - (10 : Int32))) dX11_plan_205 rfl rfl ?_
                          refine x_any (fun v736 => ?_)
                          obtain ⟨_, k737, n738, n740, v742, bn739, bn741, rfl⟩ := hW725 92 _ rfl
                          refine x_vi C (As := [.int v736]) (rest := []) (c_rowOf E l a w724 hW725 v736) mf_X6_rowOf w_950 92 k737 rfl rfl rfl (Nat.le_of_ble_eq_true rfl) ⟨(Nat.le_of_ble_eq_true rfl), (Nat.le_of_ble_eq_true rfl)⟩ ⟨(Nat.le_of_ble_eq_true rfl), (Nat.le_of_ble_eq_true rfl)⟩ dX11_plan_206 rfl (fun r744 w745 h743 => ?_)
                          have hW746 := h743
                          refine x_ws hW746 ?_
                          exact x_zret C hr hlk rfl dX11_plan_209 ⟨hW725, kp731⟩
                        · skip
                          have nf747 : j556 = 1 := (nI_eq (by omega) (by omega)).mp c734
                          refine x_aload_n C dX11_plan_188 rfl 0 rfl rfl ?_
                          refine x_get C (ci := 10) (k := 9) 0 k727 rfl in_X11 (by decide) w_394 rfl dX11_plan_189 rfl ?_
                          obtain ⟨_, k748, n749, n751, v753, bn750, bn752, rfl⟩ := hW725 92 _ rfl
                          refine x_vi C (As := []) (rest := []) (c_bestEggs E l a w724 hW725) mf_X6_bestEggs w_945 92 k748 rfl rfl rfl (Nat.le_of_ble_eq_true rfl) ⟨(Nat.le_of_ble_eq_true rfl), (Nat.le_of_ble_eq_true rfl)⟩ ⟨(Nat.le_of_ble_eq_true rfl), (Nat.le_of_ble_eq_true rfl)⟩ dX11_plan_192 rfl (fun r755 w756 h754 => ?_)
                          have hW757 := h754
                          refine x_ws hW757 ?_
                          refine x_goto C (tgt := 209) dX11_plan_195 (by decide) ?_
                          exact x_zret C hr hlk rfl dX11_plan_209 ⟨hW725, kp731⟩
                      · skip
                        have nf758 : j556 = 0 := (nI_eq (by omega) (by omega)).mp c732
                        refine x_aload_n C dX11_plan_175 rfl 0 rfl rfl ?_
                        refine x_get C (ci := 10) (k := 9) 0 k727 rfl in_X11 (by decide) w_394 rfl dX11_plan_176 rfl ?_
                        obtain ⟨_, k759, n760, n762, v764, bn761, bn763, rfl⟩ := hW725 92 _ rfl
                        refine x_vi C (As := []) (rest := []) (c_bestWorth E l a w724 hW725) mf_X6_bestWorth w_941 92 k759 rfl rfl rfl (Nat.le_of_ble_eq_true rfl) ⟨(Nat.le_of_ble_eq_true rfl), (Nat.le_of_ble_eq_true rfl)⟩ ⟨(Nat.le_of_ble_eq_true rfl), (Nat.le_of_ble_eq_true rfl)⟩ dX11_plan_179 rfl (fun r766 w767 h765 => ?_)
                        have hW768 := h765
                        refine x_ws hW768 ?_
                        exact x_zret C hr hlk rfl dX11_plan_182 ⟨hW725, kp731⟩
                    · skip
                      have nf769 := nI_nle' (a := 8) (b := i) c714 (by omega) (by omega)
                      refine x_iload_n C dX11_plan_121 rfl 2 rfl rfl ?_
                      refine x_iload C dX11_plan_122 7 rfl rfl ?_
                      refine x_si C (As := [.int (nI j430), .int (nI i)]) (rest := []) (c_isIn E l a ws hW ((nI j430)) ((nI i))) mf_X11_isIn w_909 rfl rfl (Nat.le_of_ble_eq_true rfl) ⟨(Nat.le_of_ble_eq_true rfl), (Nat.le_of_ble_eq_true rfl)⟩ ⟨(Nat.le_of_ble_eq_true rfl), (Nat.le_of_ble_eq_true rfl)⟩ dX11_plan_124 rfl (fun r771 w772 h770 => ?_)
                      obtain ⟨hW773, zb774, x775⟩ := h770
                      refine x_ws hW773 ?_
                      refine x_if_eq C (tgt := 148) dX11_plan_127 (by decide) rfl (fun c776 => ?_) (fun c776 => ?_)
                      · skip
                        refine x_iinc C (v := (nI (i + 1))) (lv' := [(7, .int (nI (i + 1))), (0, .ref (a 0)), (1, .int (nI j688)), (2, .int (nI j430)), (3, .int (nI j556)), (4, .int v12), (5, .int (nI j699)), (6, .int 1)]) dX11_plan_148 7 rfl (nI_add i 1) (by decide) rfl rfl ?_
                        refine x_goto C (tgt := 114) dX11_plan_151 (by decide) ?_
                        refine x_lv (lv1 := [(0, .ref (a 0)), (1, .int (nI j688)), (2, .int (nI j430)), (3, .int (nI j556)), (4, .int v12), (5, .int (nI j699)), (6, .int 1), (7, .int (nI (i + 1)))]) [1, 2, 3, 4, 5, 6, 7, 0] rfl ?_
                        exact ih114 (i + 1) trivial (by omega) (by omega)
                      · skip
                        have wi777 := wth_le (a := 0) (b := 7) (j := i) (x775 c776) (by omega) (by decide) (by decide)
                        refine x_aload_n C dX11_plan_130 rfl 0 rfl rfl ?_
                        refine x_get C (ci := 10) (k := 2) 0 k1 rfl in_X11 (by decide) w_387 rfl dX11_plan_131 rfl ?_
                        refine x_get C (ci := 8) (k := 5) 5 k3 rfl in_X9 (by decide) w_213 rfl dX11_plan_134 rfl ?_
                        refine x_iload C dX11_plan_137 7 rfl rfl ?_
                        refine x_vi C (As := [.int (nI i)]) (rest := []) (c_Works_isDone E l a ws hW 5 (Or.inl rfl) ((nI i))) mf_X10_isDone w_894 21 k11 rfl rfl rfl (Nat.le_of_ble_eq_true rfl) ⟨(Nat.le_of_ble_eq_true rfl), (Nat.le_of_ble_eq_true rfl)⟩ ⟨(Nat.le_of_ble_eq_true rfl), (Nat.le_of_ble_eq_true rfl)⟩ dX11_plan_139 rfl (fun r779 w780 h778 => ?_)
                        obtain ⟨hW781, zb782, x783⟩ := h778
                        refine x_ws hW781 ?_
                        refine x_if_eq C (tgt := 148) dX11_plan_142 (by decide) rfl (fun c784 => ?_) (fun c784 => ?_)
                        · skip
                          refine x_iinc C (v := (nI (i + 1))) (lv' := [(7, .int (nI (i + 1))), (0, .ref (a 0)), (1, .int (nI j688)), (2, .int (nI j430)), (3, .int (nI j556)), (4, .int v12), (5, .int (nI j699)), (6, .int 1)]) dX11_plan_148 7 rfl (nI_add i 1) (by decide) rfl rfl ?_
                          refine x_goto C (tgt := 114) dX11_plan_151 (by decide) ?_
                          refine x_lv (lv1 := [(0, .ref (a 0)), (1, .int (nI j688)), (2, .int (nI j430)), (3, .int (nI j556)), (4, .int v12), (5, .int (nI j699)), (6, .int 1), (7, .int (nI (i + 1)))]) [1, 2, 3, 4, 5, 6, 7, 0] rfl ?_
                          exact ih114 (i + 1) trivial (by omega) (by omega)
                        · skip
                          have wi785 := wth_le (a := 0) (b := 7) (j := i) (x783 c784) (by omega) (by decide) (by decide)
                          refine x_bipush C (v := (-2)) dX11_plan_145 (by decide) rfl ?_
                          exact x_zret C hr hlk rfl dX11_plan_147 ⟨hW, kp0⟩
                refine x_lv (lv1 := [(0, .ref (a 0)), (1, .int (nI j688)), (2, .int (nI j430)), (3, .int (nI j556)), (4, .int v12), (5, .int (nI j699)), (6, .int 1), (7, .int 0)]) [4, 5, 6, 7, 3, 2, 1, 0] rfl ?_
                exact loop114 _ 0 trivial (Nat.lt_succ_self _) (by omega)
              · skip
                refine x_iload C dX11_plan_104 0 rfl rfl ?_
                refine x_if_ne C (tgt := 111) dX11_plan_106 (by decide) rfl (fun _ => ?_) (fun h => absurd h (by decide))
                refine x_iconst C (v := 0) dX11_plan_111 (by decide) rfl ?_
                refine x_istore C (lv' := [(7, .int 0), (6, .int 1), (5, .int (nI j699)), (4, .int v12), (0, .ref (a 0)), (1, .int (nI j688)), (2, .int (nI j430)), (3, .int (nI j556))]) dX11_plan_112 (by decide) rfl rfl ?_
                have loop114 : ∀ (fu114 : Nat) (i : Nat), True → 8 - i < fu114 → i ≤ 8 → X E p l e (xRm 8 0 0) s m ([.ref (a 0), .int (nI j688), .int (nI j430), .int (nI j556)] : List Value).toArray below meth c A 8 0 0 (MQ below (va_Qi (fun r w => WX (okX E a) w ∧ keeps ws w (fun q => ¬ (q = 0 ∨ q = 6 ∨ q = 9 ∨ q = 28 ∨ q = 31))) (xB E A) A) ([.ref (a 0), .int (nI j688), .int (nI j430), .int (nI j556)] : List Value).toArray s 0 0 A) ws 114 [(0, .ref (a 0)), (1, .int (nI j688)), (2, .int (nI j430)), (3, .int (nI j556)), (4, .int v12), (5, .int (nI j699)), (6, .int 1), (7, .int (nI i))] [] := by
                  intro fu114
                  induction fu114 with
                  | zero => intro i _ q; omega
                  | succ fu114 ih114 =>
                    intro i _ me114 iv114_0
                    refine x_iload C dX11_plan_114 7 rfl rfl ?_
                    refine x_bipush C (v := 8) dX11_plan_116 (by decide) rfl ?_
                    refine x_icmp_ge C (tgt := 154) dX11_plan_118 (by decide) rfl (fun c786 => ?_) (fun c786 => ?_)
                    · skip
                      have nf787 := nI_le' (a := 8) (b := i) c786 (by omega) (by omega)
                      refine x_aload_n C dX11_plan_154 rfl 0 rfl rfl ?_
                      refine x_get C (ci := 10) (k := 9) 0 k1 rfl in_X11 (by decide) w_394 rfl dX11_plan_155 rfl ?_
                      refine x_aload_n C dX11_plan_158 rfl 0 rfl rfl ?_
                      refine x_get C (ci := 10) (k := 2) 0 k1 rfl in_X11 (by decide) w_387 rfl dX11_plan_159 rfl ?_
                      refine x_aload_n C dX11_plan_162 rfl 0 rfl rfl ?_
                      refine x_get C (ci := 10) (k := 6) 0 k1 rfl in_X11 (by decide) w_391 rfl dX11_plan_163 rfl ?_
                      refine x_iload_n C dX11_plan_166 rfl 1 rfl rfl ?_
                      refine x_iload_n C dX11_plan_167 rfl 2 rfl rfl ?_
                      obtain ⟨_, k788, n789, n791, v793, bn790, bn792, rfl⟩ := hW 92 _ rfl
                      refine x_vv C (As := [.ref (a 5), .ref (a 71), .int (nI j688), .int (nI j430)]) (rest := []) (c_planFind E l a ws hW 5 (Or.inl rfl) ((nI j688)) ((nI j430))) mf_X6_find w_910 92 k788 rfl rfl rfl (Nat.le_of_ble_eq_true rfl) ⟨(Nat.le_of_ble_eq_true rfl), (Nat.le_of_ble_eq_true rfl)⟩ ⟨(Nat.le_of_ble_eq_true rfl), (Nat.le_of_ble_eq_true rfl)⟩ dX11_plan_168 rfl (fun w796 h794 => ?_)
                      obtain ⟨hW797, kq798⟩ := h794
                      have k799 : w796[0]? = some (ob (a 0) 10 [.ref (a 1), .ref (a 3), .ref (a 5), .ref (a 27), .ref (a 49), .int v2, .ref (a 71), .ref (a 79), .ref (a 87), .ref (a 92), .ref (a 103), .ref (a 105), .ref (a 106), .ref (a 107), .ref (a 108), .ref (a 109), .ref (a 110), .ref (a 111), .ref (a 112)]) := keeps_at kq798 k1 (by first | decide | omega | (dsimp only; omega))
                      have k800 : w796[5]? = some (ob (a 5) 8 [.int (nI n4), .int v6, .ref (a 6), .ref (a 9), .ref (a 14), .ref (a 21), .int v7, .int v8, .int v9, .int v10]) := keeps_at kq798 k3 (by first | decide | omega | (dsimp only; omega))
                      have k801 : w796[21]? = some (ob (a 21) 9 [.int v12, .ref (a 22), .ref (a 23), .ref (a 24), .ref (a 25), .ref (a 26)]) := keeps_at kq798 k11 (by first | decide | omega | (dsimp only; omega))
                      have k802 : w796[9]? = some (ob (a 9) 4 [.int v680, .ref (a 10), .ref (a 11), .ref (a 12), .ref (a 13)]) := keeps_at kq798 k679 (by first | decide | omega | (dsimp only; omega))
                      have kp803 := keeps_tr kp0 kq798 (fun q hq => by first | omega | (dsimp only at *; omega))
                      refine x_iload_n C dX11_plan_171 rfl 3 rfl rfl ?_
                      refine x_if_ne C (tgt := 183) dX11_plan_172 (by decide) rfl (fun c804 => ?_) (fun c804 => ?_)
                      · skip
                        have nf805 : ¬ j556 = 0 := fun q => c804 (congrArg nI q)
                        refine x_iload_n C dX11_plan_183 rfl 3 rfl rfl ?_
                        refine x_iconst C (v := 1) dX11_plan_184 (by decide) rfl ?_
                        refine x_icmp_ne C (tgt := 198) dX11_plan_185 (by decide) rfl (fun c806 => ?_) (fun c806 => ?_)
                        · skip
                          have nf807 : ¬ j556 = 1 := fun q => c806 (congrArg nI q)
                          refine x_aload_n C dX11_plan_198 rfl 0 rfl rfl ?_
                          refine x_get C (ci := 10) (k := 9) 0 k799 rfl in_X11 (by decide) w_394 rfl dX11_plan_199 rfl ?_
                          refine x_iload_n C dX11_plan_202 rfl 3 rfl rfl ?_
                          refine x_bipush C (v := 10) dX11_plan_203 (by decide) rfl ?_
                          refine x_isub C (v := ((nI j556) - (10 : Int32))) dX11_plan_205 rfl rfl ?_
                          refine x_any (fun v808 => ?_)
                          obtain ⟨_, k809, n810, n812, v814, bn811, bn813, rfl⟩ := hW797 92 _ rfl
                          refine x_vi C (As := [.int v808]) (rest := []) (c_rowOf E l a w796 hW797 v808) mf_X6_rowOf w_950 92 k809 rfl rfl rfl (Nat.le_of_ble_eq_true rfl) ⟨(Nat.le_of_ble_eq_true rfl), (Nat.le_of_ble_eq_true rfl)⟩ ⟨(Nat.le_of_ble_eq_true rfl), (Nat.le_of_ble_eq_true rfl)⟩ dX11_plan_206 rfl (fun r816 w817 h815 => ?_)
                          have hW818 := h815
                          refine x_ws hW818 ?_
                          exact x_zret C hr hlk rfl dX11_plan_209 ⟨hW797, kp803⟩
                        · skip
                          have nf819 : j556 = 1 := (nI_eq (by omega) (by omega)).mp c806
                          refine x_aload_n C dX11_plan_188 rfl 0 rfl rfl ?_
                          refine x_get C (ci := 10) (k := 9) 0 k799 rfl in_X11 (by decide) w_394 rfl dX11_plan_189 rfl ?_
                          obtain ⟨_, k820, n821, n823, v825, bn822, bn824, rfl⟩ := hW797 92 _ rfl
                          refine x_vi C (As := []) (rest := []) (c_bestEggs E l a w796 hW797) mf_X6_bestEggs w_945 92 k820 rfl rfl rfl (Nat.le_of_ble_eq_true rfl) ⟨(Nat.le_of_ble_eq_true rfl), (Nat.le_of_ble_eq_true rfl)⟩ ⟨(Nat.le_of_ble_eq_true rfl), (Nat.le_of_ble_eq_true rfl)⟩ dX11_plan_192 rfl (fun r827 w828 h826 => ?_)
                          have hW829 := h826
                          refine x_ws hW829 ?_
                          refine x_goto C (tgt := 209) dX11_plan_195 (by decide) ?_
                          exact x_zret C hr hlk rfl dX11_plan_209 ⟨hW797, kp803⟩
                      · skip
                        have nf830 : j556 = 0 := (nI_eq (by omega) (by omega)).mp c804
                        refine x_aload_n C dX11_plan_175 rfl 0 rfl rfl ?_
                        refine x_get C (ci := 10) (k := 9) 0 k799 rfl in_X11 (by decide) w_394 rfl dX11_plan_176 rfl ?_
                        obtain ⟨_, k831, n832, n834, v836, bn833, bn835, rfl⟩ := hW797 92 _ rfl
                        refine x_vi C (As := []) (rest := []) (c_bestWorth E l a w796 hW797) mf_X6_bestWorth w_941 92 k831 rfl rfl rfl (Nat.le_of_ble_eq_true rfl) ⟨(Nat.le_of_ble_eq_true rfl), (Nat.le_of_ble_eq_true rfl)⟩ ⟨(Nat.le_of_ble_eq_true rfl), (Nat.le_of_ble_eq_true rfl)⟩ dX11_plan_179 rfl (fun r838 w839 h837 => ?_)
                        have hW840 := h837
                        refine x_ws hW840 ?_
                        exact x_zret C hr hlk rfl dX11_plan_182 ⟨hW797, kp803⟩
                    · skip
                      have nf841 := nI_nle' (a := 8) (b := i) c786 (by omega) (by omega)
                      refine x_iload_n C dX11_plan_121 rfl 2 rfl rfl ?_
                      refine x_iload C dX11_plan_122 7 rfl rfl ?_
                      refine x_si C (As := [.int (nI j430), .int (nI i)]) (rest := []) (c_isIn E l a ws hW ((nI j430)) ((nI i))) mf_X11_isIn w_909 rfl rfl (Nat.le_of_ble_eq_true rfl) ⟨(Nat.le_of_ble_eq_true rfl), (Nat.le_of_ble_eq_true rfl)⟩ ⟨(Nat.le_of_ble_eq_true rfl), (Nat.le_of_ble_eq_true rfl)⟩ dX11_plan_124 rfl (fun r843 w844 h842 => ?_)
                      obtain ⟨hW845, zb846, x847⟩ := h842
                      refine x_ws hW845 ?_
                      refine x_if_eq C (tgt := 148) dX11_plan_127 (by decide) rfl (fun c848 => ?_) (fun c848 => ?_)
                      · skip
                        refine x_iinc C (v := (nI (i + 1))) (lv' := [(7, .int (nI (i + 1))), (0, .ref (a 0)), (1, .int (nI j688)), (2, .int (nI j430)), (3, .int (nI j556)), (4, .int v12), (5, .int (nI j699)), (6, .int 1)]) dX11_plan_148 7 rfl (nI_add i 1) (by decide) rfl rfl ?_
                        refine x_goto C (tgt := 114) dX11_plan_151 (by decide) ?_
                        refine x_lv (lv1 := [(0, .ref (a 0)), (1, .int (nI j688)), (2, .int (nI j430)), (3, .int (nI j556)), (4, .int v12), (5, .int (nI j699)), (6, .int 1), (7, .int (nI (i + 1)))]) [1, 2, 3, 4, 5, 6, 7, 0] rfl ?_
                        exact ih114 (i + 1) trivial (by omega) (by omega)
                      · skip
                        have wi849 := wth_le (a := 0) (b := 7) (j := i) (x847 c848) (by omega) (by decide) (by decide)
                        refine x_aload_n C dX11_plan_130 rfl 0 rfl rfl ?_
                        refine x_get C (ci := 10) (k := 2) 0 k1 rfl in_X11 (by decide) w_387 rfl dX11_plan_131 rfl ?_
                        refine x_get C (ci := 8) (k := 5) 5 k3 rfl in_X9 (by decide) w_213 rfl dX11_plan_134 rfl ?_
                        refine x_iload C dX11_plan_137 7 rfl rfl ?_
                        refine x_vi C (As := [.int (nI i)]) (rest := []) (c_Works_isDone E l a ws hW 5 (Or.inl rfl) ((nI i))) mf_X10_isDone w_894 21 k11 rfl rfl rfl (Nat.le_of_ble_eq_true rfl) ⟨(Nat.le_of_ble_eq_true rfl), (Nat.le_of_ble_eq_true rfl)⟩ ⟨(Nat.le_of_ble_eq_true rfl), (Nat.le_of_ble_eq_true rfl)⟩ dX11_plan_139 rfl (fun r851 w852 h850 => ?_)
                        obtain ⟨hW853, zb854, x855⟩ := h850
                        refine x_ws hW853 ?_
                        refine x_if_eq C (tgt := 148) dX11_plan_142 (by decide) rfl (fun c856 => ?_) (fun c856 => ?_)
                        · skip
                          refine x_iinc C (v := (nI (i + 1))) (lv' := [(7, .int (nI (i + 1))), (0, .ref (a 0)), (1, .int (nI j688)), (2, .int (nI j430)), (3, .int (nI j556)), (4, .int v12), (5, .int (nI j699)), (6, .int 1)]) dX11_plan_148 7 rfl (nI_add i 1) (by decide) rfl rfl ?_
                          refine x_goto C (tgt := 114) dX11_plan_151 (by decide) ?_
                          refine x_lv (lv1 := [(0, .ref (a 0)), (1, .int (nI j688)), (2, .int (nI j430)), (3, .int (nI j556)), (4, .int v12), (5, .int (nI j699)), (6, .int 1), (7, .int (nI (i + 1)))]) [1, 2, 3, 4, 5, 6, 7, 0] rfl ?_
                          exact ih114 (i + 1) trivial (by omega) (by omega)
                        · skip
                          have wi857 := wth_le (a := 0) (b := 7) (j := i) (x855 c856) (by omega) (by decide) (by decide)
                          refine x_bipush C (v := (-2)) dX11_plan_145 (by decide) rfl ?_
                          exact x_zret C hr hlk rfl dX11_plan_147 ⟨hW, kp0⟩
                refine x_lv (lv1 := [(0, .ref (a 0)), (1, .int (nI j688)), (2, .int (nI j430)), (3, .int (nI j556)), (4, .int v12), (5, .int (nI j699)), (6, .int 1), (7, .int 0)]) [4, 5, 6, 7, 3, 2, 1, 0] rfl ?_
                exact loop114 _ 0 trivial (Nat.lt_succ_self _) (by omega)
