theorem dX11_plan_0 : decode cX11_plan 0 = .ok (.aload_n 0, 1) := by decide +kernel
theorem dX11_plan_1 : decode cX11_plan 1 = .ok (.getfield 22, 3) := by decide +kernel
theorem dX11_plan_4 : decode cX11_plan 4 = .ok (.getfield 123, 3) := by decide +kernel
theorem dX11_plan_7 : decode cX11_plan 7 = .ok (.getfield 280, 3) := by decide +kernel
theorem dX11_plan_10 : decode cX11_plan 10 = .ok (.istore 4, 2) := by decide +kernel
theorem dX11_plan_12 : decode cX11_plan 12 = .ok (.iload_n 2, 1) := by decide +kernel
theorem dX11_plan_13 : decode cX11_plan 13 = .ok (.iconst 1, 1) := by decide +kernel
theorem dX11_plan_14 : decode cX11_plan 14 = .ok (.sipush 255, 3) := by decide +kernel
theorem dX11_plan_17 : decode cX11_plan 17 = .ok (.invokestatic 102, 3) := by decide +kernel
theorem dX11_plan_20 : decode cX11_plan 20 = .ok (.ifCond .eq 10, 3) := by decide +kernel
theorem dX11_plan_23 : decode cX11_plan 23 = .ok (.iload_n 2, 1) := by decide +kernel
theorem dX11_plan_24 : decode cX11_plan 24 = .ok (.invokestatic 281, 3) := by decide +kernel
theorem dX11_plan_27 : decode cX11_plan 27 = .ok (.goto 4, 3) := by decide +kernel
theorem dX11_plan_30 : decode cX11_plan 30 = .ok (.iconst 0, 1) := by decide +kernel
theorem dX11_plan_31 : decode cX11_plan 31 = .ok (.istore 5, 2) := by decide +kernel
theorem dX11_plan_33 : decode cX11_plan 33 = .ok (.iload_n 3, 1) := by decide +kernel
theorem dX11_plan_34 : decode cX11_plan 34 = .ok (.bipush 10, 2) := by decide +kernel
theorem dX11_plan_36 : decode cX11_plan 36 = .ok (.bipush 17, 2) := by decide +kernel
theorem dX11_plan_38 : decode cX11_plan 38 = .ok (.invokestatic 102, 3) := by decide +kernel
theorem dX11_plan_41 : decode cX11_plan 41 = .ok (.ifCond .eq 18, 3) := by decide +kernel
theorem dX11_plan_44 : decode cX11_plan 44 = .ok (.iload_n 2, 1) := by decide +kernel
theorem dX11_plan_45 : decode cX11_plan 45 = .ok (.iload_n 3, 1) := by decide +kernel
theorem dX11_plan_46 : decode cX11_plan 46 = .ok (.bipush 10, 2) := by decide +kernel
theorem dX11_plan_48 : decode cX11_plan 48 = .ok (.isub, 1) := by decide +kernel
theorem dX11_plan_49 : decode cX11_plan 49 = .ok (.invokestatic 286, 3) := by decide +kernel
theorem dX11_plan_52 : decode cX11_plan 52 = .ok (.ifCond .eq 7, 3) := by decide +kernel
theorem dX11_plan_55 : decode cX11_plan 55 = .ok (.iconst 1, 1) := by decide +kernel
theorem dX11_plan_56 : decode cX11_plan 56 = .ok (.goto 4, 3) := by decide +kernel
theorem dX11_plan_59 : decode cX11_plan 59 = .ok (.iconst 0, 1) := by decide +kernel
theorem dX11_plan_60 : decode cX11_plan 60 = .ok (.istore 6, 2) := by decide +kernel
theorem dX11_plan_62 : decode cX11_plan 62 = .ok (.aload_n 0, 1) := by decide +kernel
theorem dX11_plan_63 : decode cX11_plan 63 = .ok (.getfield 22, 3) := by decide +kernel
theorem dX11_plan_66 : decode cX11_plan 66 = .ok (.getfield 92, 3) := by decide +kernel
theorem dX11_plan_69 : decode cX11_plan 69 = .ok (.iload_n 1, 1) := by decide +kernel
theorem dX11_plan_70 : decode cX11_plan 70 = .ok (.invokevirtual 106, 3) := by decide +kernel
theorem dX11_plan_73 : decode cX11_plan 73 = .ok (.ifCond .eq 36, 3) := by decide +kernel
theorem dX11_plan_76 : decode cX11_plan 76 = .ok (.iload 5, 2) := by decide +kernel
theorem dX11_plan_78 : decode cX11_plan 78 = .ok (.iconst 1, 1) := by decide +kernel
theorem dX11_plan_79 : decode cX11_plan 79 = .ok (.iconst 4, 1) := by decide +kernel
theorem dX11_plan_80 : decode cX11_plan 80 = .ok (.invokestatic 102, 3) := by decide +kernel
theorem dX11_plan_83 : decode cX11_plan 83 = .ok (.ifCond .eq 26, 3) := by decide +kernel
theorem dX11_plan_86 : decode cX11_plan 86 = .ok (.iload_n 2, 1) := by decide +kernel
theorem dX11_plan_87 : decode cX11_plan 87 = .ok (.iload 4, 2) := by decide +kernel
theorem dX11_plan_89 : decode cX11_plan 89 = .ok (.iconst (-1), 1) := by decide +kernel
theorem dX11_plan_90 : decode cX11_plan 90 = .ok (.ixor, 1) := by decide +kernel
theorem dX11_plan_91 : decode cX11_plan 91 = .ok (.iand, 1) := by decide +kernel
theorem dX11_plan_92 : decode cX11_plan 92 = .ok (.ifCond .ne 17, 3) := by decide +kernel
theorem dX11_plan_95 : decode cX11_plan 95 = .ok (.iload_n 3, 1) := by decide +kernel
theorem dX11_plan_96 : decode cX11_plan 96 = .ok (.iconst 0, 1) := by decide +kernel
theorem dX11_plan_97 : decode cX11_plan 97 = .ok (.iconst 1, 1) := by decide +kernel
theorem dX11_plan_98 : decode cX11_plan 98 = .ok (.invokestatic 102, 3) := by decide +kernel
theorem dX11_plan_101 : decode cX11_plan 101 = .ok (.ifCond .ne 10, 3) := by decide +kernel
theorem dX11_plan_104 : decode cX11_plan 104 = .ok (.iload 6, 2) := by decide +kernel
theorem dX11_plan_106 : decode cX11_plan 106 = .ok (.ifCond .ne 5, 3) := by decide +kernel
theorem dX11_plan_109 : decode cX11_plan 109 = .ok (.iconst (-1), 1) := by decide +kernel
theorem dX11_plan_110 : decode cX11_plan 110 = .ok (.ireturn, 1) := by decide +kernel
theorem dX11_plan_111 : decode cX11_plan 111 = .ok (.iconst 0, 1) := by decide +kernel
theorem dX11_plan_112 : decode cX11_plan 112 = .ok (.istore 7, 2) := by decide +kernel
theorem dX11_plan_114 : decode cX11_plan 114 = .ok (.iload 7, 2) := by decide +kernel
theorem dX11_plan_116 : decode cX11_plan 116 = .ok (.bipush 8, 2) := by decide +kernel
theorem dX11_plan_118 : decode cX11_plan 118 = .ok (.if_icmp .ge 36, 3) := by decide +kernel
theorem dX11_plan_121 : decode cX11_plan 121 = .ok (.iload_n 2, 1) := by decide +kernel
theorem dX11_plan_122 : decode cX11_plan 122 = .ok (.iload 7, 2) := by decide +kernel
theorem dX11_plan_124 : decode cX11_plan 124 = .ok (.invokestatic 286, 3) := by decide +kernel
theorem dX11_plan_127 : decode cX11_plan 127 = .ok (.ifCond .eq 21, 3) := by decide +kernel
theorem dX11_plan_130 : decode cX11_plan 130 = .ok (.aload_n 0, 1) := by decide +kernel
theorem dX11_plan_131 : decode cX11_plan 131 = .ok (.getfield 22, 3) := by decide +kernel
theorem dX11_plan_134 : decode cX11_plan 134 = .ok (.getfield 123, 3) := by decide +kernel
theorem dX11_plan_137 : decode cX11_plan 137 = .ok (.iload 7, 2) := by decide +kernel
theorem dX11_plan_139 : decode cX11_plan 139 = .ok (.invokevirtual 270, 3) := by decide +kernel
theorem dX11_plan_142 : decode cX11_plan 142 = .ok (.ifCond .eq 6, 3) := by decide +kernel
theorem dX11_plan_145 : decode cX11_plan 145 = .ok (.bipush (-2), 2) := by decide +kernel
theorem dX11_plan_147 : decode cX11_plan 147 = .ok (.ireturn, 1) := by decide +kernel
theorem dX11_plan_148 : decode cX11_plan 148 = .ok (.iinc 7 1, 3) := by decide +kernel
theorem dX11_plan_151 : decode cX11_plan 151 = .ok (.goto (-37), 3) := by decide +kernel
theorem dX11_plan_154 : decode cX11_plan 154 = .ok (.aload_n 0, 1) := by decide +kernel
theorem dX11_plan_155 : decode cX11_plan 155 = .ok (.getfield 56, 3) := by decide +kernel
theorem dX11_plan_158 : decode cX11_plan 158 = .ok (.aload_n 0, 1) := by decide +kernel
theorem dX11_plan_159 : decode cX11_plan 159 = .ok (.getfield 22, 3) := by decide +kernel
theorem dX11_plan_162 : decode cX11_plan 162 = .ok (.aload_n 0, 1) := by decide +kernel
theorem dX11_plan_163 : decode cX11_plan 163 = .ok (.getfield 39, 3) := by decide +kernel
theorem dX11_plan_166 : decode cX11_plan 166 = .ok (.iload_n 1, 1) := by decide +kernel
theorem dX11_plan_167 : decode cX11_plan 167 = .ok (.iload_n 2, 1) := by decide +kernel
theorem dX11_plan_168 : decode cX11_plan 168 = .ok (.invokevirtual 289, 3) := by decide +kernel
theorem dX11_plan_171 : decode cX11_plan 171 = .ok (.iload_n 3, 1) := by decide +kernel
theorem dX11_plan_172 : decode cX11_plan 172 = .ok (.ifCond .ne 11, 3) := by decide +kernel
theorem dX11_plan_175 : decode cX11_plan 175 = .ok (.aload_n 0, 1) := by decide +kernel
theorem dX11_plan_176 : decode cX11_plan 176 = .ok (.getfield 56, 3) := by decide +kernel
theorem dX11_plan_179 : decode cX11_plan 179 = .ok (.invokevirtual 293, 3) := by decide +kernel
theorem dX11_plan_182 : decode cX11_plan 182 = .ok (.ireturn, 1) := by decide +kernel
theorem dX11_plan_183 : decode cX11_plan 183 = .ok (.iload_n 3, 1) := by decide +kernel
theorem dX11_plan_184 : decode cX11_plan 184 = .ok (.iconst 1, 1) := by decide +kernel
theorem dX11_plan_185 : decode cX11_plan 185 = .ok (.if_icmp .ne 13, 3) := by decide +kernel
theorem dX11_plan_188 : decode cX11_plan 188 = .ok (.aload_n 0, 1) := by decide +kernel
theorem dX11_plan_189 : decode cX11_plan 189 = .ok (.getfield 56, 3) := by decide +kernel
theorem dX11_plan_192 : decode cX11_plan 192 = .ok (.invokevirtual 296, 3) := by decide +kernel
theorem dX11_plan_195 : decode cX11_plan 195 = .ok (.goto 14, 3) := by decide +kernel
theorem dX11_plan_198 : decode cX11_plan 198 = .ok (.aload_n 0, 1) := by decide +kernel
theorem dX11_plan_199 : decode cX11_plan 199 = .ok (.getfield 56, 3) := by decide +kernel
theorem dX11_plan_202 : decode cX11_plan 202 = .ok (.iload_n 3, 1) := by decide +kernel
theorem dX11_plan_203 : decode cX11_plan 203 = .ok (.bipush 10, 2) := by decide +kernel
theorem dX11_plan_205 : decode cX11_plan 205 = .ok (.isub, 1) := by decide +kernel
theorem dX11_plan_206 : decode cX11_plan 206 = .ok (.invokevirtual 299, 3) := by decide +kernel
theorem dX11_plan_209 : decode cX11_plan 209 = .ok (.ireturn, 1) := by decide +kernel
set_option maxRecDepth 20000 in
set_option maxHeartbeats 4000000 in
theorem c_plan (E : xE) (l : Launch) (a : Nat → Nat) (ws : va_W) (hW : WX (okX E a) ws) (p0 : Int32) (p1 : Int32) (p2 : Int32) : xI E l yX11_plan cX11_plan 8 (some .int) 8 [.ref (a 0), .int p0, .int p1, .int p2] ws (fun r w => WX (okX E a) w) := by
  refine xI_start (lv := [(0, .ref (a 0)), (1, .int p0), (2, .int p1), (3, .int p2)]) RX11 (by decide) rfl (Nat.le_of_ble_eq_true rfl) rfl (fun p e s m below meth c A C hr hlk => ?_)
  refine x_aload_n C dX11_plan_0 rfl 0 rfl rfl ?_
  obtain ⟨_, k1, v2, rfl⟩ := hW 0 _ rfl
  refine x_get C (ci := 10) (k := 2) 0 k1 rfl in_X11 (by decide) w_387 rfl dX11_plan_1 rfl ?_
  obtain ⟨_, k3, n4, v6, v7, v8, v9, v10, bn5, rfl⟩ := hW 5 _ rfl
  refine x_get C (ci := 8) (k := 5) 5 k3 rfl in_X9 (by decide) w_213 rfl dX11_plan_4 rfl ?_
  obtain ⟨_, k11, v12, rfl⟩ := hW 21 _ rfl
  refine x_get C (ci := 9) (k := 0) 21 k11 rfl in_X10 (by decide) w_169 rfl dX11_plan_7 rfl ?_
  refine x_istore C (lv' := [(4, .int v12), (0, .ref (a 0)), (1, .int p0), (2, .int p1), (3, .int p2)]) dX11_plan_10 (by decide) rfl rfl ?_
  refine x_iload_n C dX11_plan_12 rfl 3 rfl rfl ?_
  refine x_iconst C (v := 1) dX11_plan_13 (by decide) rfl ?_
  refine x_sipush C (v := 255) dX11_plan_14 (by decide) rfl ?_
  refine x_si C (As := [.int p1, .int 1, .int 255]) (rest := []) (c_isWithin E l a ws hW p1 (1 : Int32) (255 : Int32)) mf_X11_isWithin w_462 rfl rfl (Nat.le_of_ble_eq_true rfl) ⟨(Nat.le_of_ble_eq_true rfl), (Nat.le_of_ble_eq_true rfl)⟩ ⟨(Nat.le_of_ble_eq_true rfl), (Nat.le_of_ble_eq_true rfl)⟩ dX11_plan_17 rfl (fun r14 w15 h13 => ?_)
  obtain ⟨hW16, zb17, x18⟩ := h13
  refine x_ws hW16 ?_
  refine x_if_eq C (tgt := 30) dX11_plan_20 (by decide) rfl (fun c19 => ?_) (fun c19 => ?_)
  · skip
    refine x_iconst C (v := 0) dX11_plan_30 (by decide) rfl ?_
    refine x_istore C (lv' := [(5, .int 0), (4, .int v12), (0, .ref (a 0)), (1, .int p0), (2, .int p1), (3, .int p2)]) dX11_plan_31 (by decide) rfl rfl ?_
    refine x_iload_n C dX11_plan_33 rfl 5 rfl rfl ?_
    refine x_bipush C (v := 10) dX11_plan_34 (by decide) rfl ?_
    refine x_bipush C (v := 17) dX11_plan_36 (by decide) rfl ?_
    refine x_si C (As := [.int p2, .int 10, .int 17]) (rest := []) (c_isWithin E l a ws hW p2 (10 : Int32) (17 : Int32)) mf_X11_isWithin w_462 rfl rfl (Nat.le_of_ble_eq_true rfl) ⟨(Nat.le_of_ble_eq_true rfl), (Nat.le_of_ble_eq_true rfl)⟩ ⟨(Nat.le_of_ble_eq_true rfl), (Nat.le_of_ble_eq_true rfl)⟩ dX11_plan_38 rfl (fun r21 w22 h20 => ?_)
    obtain ⟨hW23, zb24, x25⟩ := h20
    refine x_ws hW23 ?_
    refine x_if_eq C (tgt := 59) dX11_plan_41 (by decide) rfl (fun c26 => ?_) (fun c26 => ?_)
    · skip
      refine x_iconst C (v := 0) dX11_plan_59 (by decide) rfl ?_
      refine x_istore C (lv' := [(6, .int 0), (5, .int 0), (4, .int v12), (0, .ref (a 0)), (1, .int p0), (2, .int p1), (3, .int p2)]) dX11_plan_60 (by decide) rfl rfl ?_
      refine x_aload_n C dX11_plan_62 rfl 3 rfl rfl ?_
      refine x_get C (ci := 10) (k := 2) 0 k1 rfl in_X11 (by decide) w_387 rfl dX11_plan_63 rfl ?_
      refine x_get C (ci := 8) (k := 3) 5 k3 rfl in_X9 (by decide) w_204 rfl dX11_plan_66 rfl ?_
      refine x_iload_n C dX11_plan_69 rfl 4 rfl rfl ?_
      obtain ⟨_, k27, v28, rfl⟩ := hW 9 _ rfl
      refine x_vi C (As := [.int p0]) (rest := []) (c_People_isTold E l a ws hW 5 (Or.inl rfl) p0) mf_X5_isTold w_465 9 k27 rfl rfl rfl (Nat.le_of_ble_eq_true rfl) ⟨(Nat.le_of_ble_eq_true rfl), (Nat.le_of_ble_eq_true rfl)⟩ ⟨(Nat.le_of_ble_eq_true rfl), (Nat.le_of_ble_eq_true rfl)⟩ dX11_plan_70 rfl (fun r30 w31 h29 => ?_)
      obtain ⟨hW32, zb33, x34⟩ := h29
      refine x_ws hW32 ?_
      refine x_if_eq C (tgt := 109) dX11_plan_73 (by decide) rfl (fun c35 => ?_) (fun c35 => ?_)
      · skip
        refine x_iconst C (v := (-1)) dX11_plan_109 (by decide) rfl ?_
        exact x_zret C hr hlk rfl dX11_plan_110 hW
      · skip
        obtain ⟨j36, hl37, hh38, ej39⟩ := w_nat (a := 0) (b := 7) (by decide) (by decide) (x34 c35)
        subst ej39
        refine x_iload C dX11_plan_76 1 rfl rfl ?_
        refine x_iconst C (v := 1) dX11_plan_78 (by decide) rfl ?_
        refine x_iconst C (v := 4) dX11_plan_79 (by decide) rfl ?_
        refine x_si C (As := [.int 0, .int 1, .int 4]) (rest := []) (c_isWithin E l a ws hW (0 : Int32) (1 : Int32) (4 : Int32)) mf_X11_isWithin w_462 rfl rfl (Nat.le_of_ble_eq_true rfl) ⟨(Nat.le_of_ble_eq_true rfl), (Nat.le_of_ble_eq_true rfl)⟩ ⟨(Nat.le_of_ble_eq_true rfl), (Nat.le_of_ble_eq_true rfl)⟩ dX11_plan_80 rfl (fun r41 w42 h40 => ?_)
        obtain ⟨hW43, zb44, x45⟩ := h40
        refine x_ws hW43 ?_
        refine x_if_eq C (tgt := 109) dX11_plan_83 (by decide) rfl (fun c46 => ?_) (fun c46 => ?_)
        · skip
          refine x_iconst C (v := (-1)) dX11_plan_109 (by decide) rfl ?_
          exact x_zret C hr hlk rfl dX11_plan_110 hW
        · skip
          have wi47 := x45 c46
          refine x_iload_n C dX11_plan_86 rfl 5 rfl rfl ?_
          refine x_iload C dX11_plan_87 2 rfl rfl ?_
          refine x_iconst C (v := (-1)) dX11_plan_89 (by decide) rfl ?_
          refine x_ixor C (v := (v12 ^^^ ((-1) : Int32))) dX11_plan_90 rfl rfl ?_
          refine x_any (fun v48 => ?_)
          refine x_iand C (v := (p1 &&& v48)) dX11_plan_91 rfl rfl ?_
          refine x_any (fun v49 => ?_)
          refine x_if_ne C (tgt := 109) dX11_plan_92 (by decide) rfl (fun c50 => ?_) (fun c50 => ?_)
          · skip
            refine x_iconst C (v := (-1)) dX11_plan_109 (by decide) rfl ?_
            exact x_zret C hr hlk rfl dX11_plan_110 hW
          · skip
            refine x_iload_n C dX11_plan_95 rfl 6 rfl rfl ?_
            refine x_iconst C (v := 0) dX11_plan_96 (by decide) rfl ?_
            refine x_iconst C (v := 1) dX11_plan_97 (by decide) rfl ?_
            refine x_si C (As := [.int p2, .int 0, .int 1]) (rest := []) (c_isWithin E l a ws hW p2 (0 : Int32) (1 : Int32)) mf_X11_isWithin w_462 rfl rfl (Nat.le_of_ble_eq_true rfl) ⟨(Nat.le_of_ble_eq_true rfl), (Nat.le_of_ble_eq_true rfl)⟩ ⟨(Nat.le_of_ble_eq_true rfl), (Nat.le_of_ble_eq_true rfl)⟩ dX11_plan_98 rfl (fun r52 w53 h51 => ?_)
            obtain ⟨hW54, zb55, x56⟩ := h51
            refine x_ws hW54 ?_
            refine x_if_ne C (tgt := 111) dX11_plan_101 (by decide) rfl (fun c57 => ?_) (fun c57 => ?_)
            · skip
              obtain ⟨j58, hl59, hh60, ej61⟩ := w_nat (a := 0) (b := 1) (by decide) (by decide) (x56 c57)
              subst ej61
              refine x_iconst C (v := 0) dX11_plan_111 (by decide) rfl ?_
              refine x_istore C (lv' := [(7, .int 0), (6, .int 0), (5, .int 0), (4, .int v12), (0, .ref (a 0)), (1, .int (nI j36)), (2, .int p1), (3, .int (nI j58))]) dX11_plan_112 (by decide) rfl rfl ?_
              have loop114 : ∀ (fu114 : Nat) (i : Nat), True → 8 - i < fu114 → i ≤ 8 → X E p l e (xRm 8 0 0) s m ([.ref (a 0), .int (nI j36), .int p1, .int (nI j58)] : List Value).toArray below meth c A 8 0 0 (MQ below (va_Qi (fun r w => WX (okX E a) w) (xB E A) A) ([.ref (a 0), .int (nI j36), .int p1, .int (nI j58)] : List Value).toArray s 0 0 A) ws 114 [(0, .ref (a 0)), (1, .int (nI j36)), (2, .int p1), (3, .int (nI j58)), (4, .int v12), (5, .int 0), (6, .int 0), (7, .int (nI i))] [] := by
                intro fu114
                induction fu114 with
                | zero => intro i _ q; omega
                | succ fu114 ih114 =>
                  intro i _ me114 iv114_0
                  refine x_iload C dX11_plan_114 7 rfl rfl ?_
                  refine x_bipush C (v := 8) dX11_plan_116 (by decide) rfl ?_
                  refine x_icmp_ge C (tgt := 154) dX11_plan_118 (by decide) rfl (fun c62 => ?_) (fun c62 => ?_)
                  · skip
                    have nf63 := nI_le' (a := 8) (b := i) c62 (by omega) (by omega)
                    refine x_aload_n C dX11_plan_154 rfl 0 rfl rfl ?_
                    refine x_get C (ci := 10) (k := 9) 0 k1 rfl in_X11 (by decide) w_394 rfl dX11_plan_155 rfl ?_
                    refine x_aload_n C dX11_plan_158 rfl 0 rfl rfl ?_
                    refine x_get C (ci := 10) (k := 2) 0 k1 rfl in_X11 (by decide) w_387 rfl dX11_plan_159 rfl ?_
                    refine x_aload_n C dX11_plan_162 rfl 0 rfl rfl ?_
                    refine x_get C (ci := 10) (k := 6) 0 k1 rfl in_X11 (by decide) w_391 rfl dX11_plan_163 rfl ?_
                    refine x_iload_n C dX11_plan_166 rfl 1 rfl rfl ?_
                    refine x_iload_n C dX11_plan_167 rfl 2 rfl rfl ?_
                    obtain ⟨_, k64, n65, n67, v69, bn66, bn68, rfl⟩ := hW 92 _ rfl
                    refine x_vv C (As := [.ref (a 5), .ref (a 71), .int (nI j36), .int p1]) (rest := []) (c_planFind E l a ws hW 5 (Or.inl rfl) ((nI j36)) p1) mf_X6_find w_910 92 k64 rfl rfl rfl (Nat.le_of_ble_eq_true rfl) ⟨(Nat.le_of_ble_eq_true rfl), (Nat.le_of_ble_eq_true rfl)⟩ ⟨(Nat.le_of_ble_eq_true rfl), (Nat.le_of_ble_eq_true rfl)⟩ dX11_plan_168 rfl (fun w72 h70 => ?_)
                    obtain ⟨hW73, kq74⟩ := h70
                    have k75 : w72[0]? = some (ob (a 0) 10 [.ref (a 1), .ref (a 3), .ref (a 5), .ref (a 27), .ref (a 49), .int v2, .ref (a 71), .ref (a 79), .ref (a 87), .ref (a 92), .ref (a 103), .ref (a 105), .ref (a 106), .ref (a 107), .ref (a 108), .ref (a 109), .ref (a 110), .ref (a 111), .ref (a 112)]) := keeps_at kq74 k1 (by first | decide | omega | (dsimp only; omega))
                    have k76 : w72[5]? = some (ob (a 5) 8 [.int (nI n4), .int v6, .ref (a 6), .ref (a 9), .ref (a 14), .ref (a 21), .int v7, .int v8, .int v9, .int v10]) := keeps_at kq74 k3 (by first | decide | omega | (dsimp only; omega))
                    have k77 : w72[21]? = some (ob (a 21) 9 [.int v12, .ref (a 22), .ref (a 23), .ref (a 24), .ref (a 25), .ref (a 26)]) := keeps_at kq74 k11 (by first | decide | omega | (dsimp only; omega))
                    have k78 : w72[9]? = some (ob (a 9) 4 [.int v28, .ref (a 10), .ref (a 11), .ref (a 12), .ref (a 13)]) := keeps_at kq74 k27 (by first | decide | omega | (dsimp only; omega))
                    refine x_iload_n C dX11_plan_171 rfl 3 rfl rfl ?_
                    refine x_if_ne C (tgt := 183) dX11_plan_172 (by decide) rfl (fun c79 => ?_) (fun c79 => ?_)
                    · skip
                      have nf80 : ¬ j58 = 0 := fun q => c79 (congrArg nI q)
                      refine x_iload_n C dX11_plan_183 rfl 3 rfl rfl ?_
                      refine x_iconst C (v := 1) dX11_plan_184 (by decide) rfl ?_
                      refine x_icmp_ne C (tgt := 198) dX11_plan_185 (by decide) rfl (fun c81 => ?_) (fun c81 => ?_)
                      · skip
                        have nf82 : ¬ j58 = 1 := fun q => c81 (congrArg nI q)
                        refine x_aload_n C dX11_plan_198 rfl 0 rfl rfl ?_
                        refine x_get C (ci := 10) (k := 9) 0 k75 rfl in_X11 (by decide) w_394 rfl dX11_plan_199 rfl ?_
                        refine x_iload_n C dX11_plan_202 rfl 3 rfl rfl ?_
                        refine x_bipush C (v := 10) dX11_plan_203 (by decide) rfl ?_
                        refine x_isub C (v := ((nI j58) - (10 : Int32))) dX11_plan_205 rfl rfl ?_
                        refine x_any (fun v83 => ?_)
                        obtain ⟨_, k84, n85, n87, v89, bn86, bn88, rfl⟩ := hW73 92 _ rfl
                        refine x_vi C (As := [.int v83]) (rest := []) (c_rowOf E l a w72 hW73 v83) mf_X6_rowOf w_950 92 k84 rfl rfl rfl (Nat.le_of_ble_eq_true rfl) ⟨(Nat.le_of_ble_eq_true rfl), (Nat.le_of_ble_eq_true rfl)⟩ ⟨(Nat.le_of_ble_eq_true rfl), (Nat.le_of_ble_eq_true rfl)⟩ dX11_plan_206 rfl (fun r91 w92 h90 => ?_)
                        have hW93 := h90
                        refine x_ws hW93 ?_
                        exact x_zret C hr hlk rfl dX11_plan_209 hW73
                      · skip
                        have nf94 : j58 = 1 := (nI_eq (by omega) (by omega)).mp c81
                        refine x_aload_n C dX11_plan_188 rfl 0 rfl rfl ?_
                        refine x_get C (ci := 10) (k := 9) 0 k75 rfl in_X11 (by decide) w_394 rfl dX11_plan_189 rfl ?_
                        obtain ⟨_, k95, n96, n98, v100, bn97, bn99, rfl⟩ := hW73 92 _ rfl
                        refine x_vi C (As := []) (rest := []) (c_bestEggs E l a w72 hW73) mf_X6_bestEggs w_945 92 k95 rfl rfl rfl (Nat.le_of_ble_eq_true rfl) ⟨(Nat.le_of_ble_eq_true rfl), (Nat.le_of_ble_eq_true rfl)⟩ ⟨(Nat.le_of_ble_eq_true rfl), (Nat.le_of_ble_eq_true rfl)⟩ dX11_plan_192 rfl (fun r102 w103 h101 => ?_)
                        have hW104 := h101
                        refine x_ws hW104 ?_
                        refine x_goto C (tgt := 209) dX11_plan_195 (by decide) ?_
                        exact x_zret C hr hlk rfl dX11_plan_209 hW73
                    · skip
                      have nf105 : j58 = 0 := (nI_eq (by omega) (by omega)).mp c79
                      refine x_aload_n C dX11_plan_175 rfl 0 rfl rfl ?_
                      refine x_get C (ci := 10) (k := 9) 0 k75 rfl in_X11 (by decide) w_394 rfl dX11_plan_176 rfl ?_
                      obtain ⟨_, k106, n107, n109, v111, bn108, bn110, rfl⟩ := hW73 92 _ rfl
                      refine x_vi C (As := []) (rest := []) (c_bestWorth E l a w72 hW73) mf_X6_bestWorth w_941 92 k106 rfl rfl rfl (Nat.le_of_ble_eq_true rfl) ⟨(Nat.le_of_ble_eq_true rfl), (Nat.le_of_ble_eq_true rfl)⟩ ⟨(Nat.le_of_ble_eq_true rfl), (Nat.le_of_ble_eq_true rfl)⟩ dX11_plan_179 rfl (fun r113 w114 h112 => ?_)
                      have hW115 := h112
                      refine x_ws hW115 ?_
                      exact x_zret C hr hlk rfl dX11_plan_182 hW73
                  · skip
                    have nf116 := nI_nle' (a := 8) (b := i) c62 (by omega) (by omega)
                    refine x_iload_n C dX11_plan_121 rfl 2 rfl rfl ?_
                    refine x_iload C dX11_plan_122 7 rfl rfl ?_
                    refine x_si C (As := [.int p1, .int (nI i)]) (rest := []) (c_isIn E l a ws hW p1 ((nI i))) mf_X11_isIn w_909 rfl rfl (Nat.le_of_ble_eq_true rfl) ⟨(Nat.le_of_ble_eq_true rfl), (Nat.le_of_ble_eq_true rfl)⟩ ⟨(Nat.le_of_ble_eq_true rfl), (Nat.le_of_ble_eq_true rfl)⟩ dX11_plan_124 rfl (fun r118 w119 h117 => ?_)
                    obtain ⟨hW120, zb121, x122⟩ := h117
                    refine x_ws hW120 ?_
                    refine x_if_eq C (tgt := 148) dX11_plan_127 (by decide) rfl (fun c123 => ?_) (fun c123 => ?_)
                    · skip
                      refine x_iinc C (v := (nI (i + 1))) (lv' := [(7, .int (nI (i + 1))), (0, .ref (a 0)), (1, .int (nI j36)), (2, .int p1), (3, .int (nI j58)), (4, .int v12), (5, .int 0), (6, .int 0)]) dX11_plan_148 7 rfl (nI_add i 1) (by decide) rfl rfl ?_
                      refine x_goto C (tgt := 114) dX11_plan_151 (by decide) ?_
                      refine x_lv (lv1 := [(0, .ref (a 0)), (1, .int (nI j36)), (2, .int p1), (3, .int (nI j58)), (4, .int v12), (5, .int 0), (6, .int 0), (7, .int (nI (i + 1)))]) [1, 2, 3, 4, 5, 6, 7, 0] rfl ?_
                      exact ih114 (i + 1) trivial (by omega) (by omega)
                    · skip
                      have wi124 := wth_le (a := 0) (b := 7) (j := i) (x122 c123) (by omega) (by decide) (by decide)
                      refine x_aload_n C dX11_plan_130 rfl 0 rfl rfl ?_
                      refine x_get C (ci := 10) (k := 2) 0 k1 rfl in_X11 (by decide) w_387 rfl dX11_plan_131 rfl ?_
                      refine x_get C (ci := 8) (k := 5) 5 k3 rfl in_X9 (by decide) w_213 rfl dX11_plan_134 rfl ?_
                      refine x_iload C dX11_plan_137 7 rfl rfl ?_
                      refine x_vi C (As := [.int (nI i)]) (rest := []) (c_Works_isDone E l a ws hW 5 (Or.inl rfl) ((nI i))) mf_X10_isDone w_894 21 k11 rfl rfl rfl (Nat.le_of_ble_eq_true rfl) ⟨(Nat.le_of_ble_eq_true rfl), (Nat.le_of_ble_eq_true rfl)⟩ ⟨(Nat.le_of_ble_eq_true rfl), (Nat.le_of_ble_eq_true rfl)⟩ dX11_plan_139 rfl (fun r126 w127 h125 => ?_)
                      obtain ⟨hW128, zb129, x130⟩ := h125
                      refine x_ws hW128 ?_
                      refine x_if_eq C (tgt := 148) dX11_plan_142 (by decide) rfl (fun c131 => ?_) (fun c131 => ?_)
                      · skip
                        refine x_iinc C (v := (nI (i + 1))) (lv' := [(7, .int (nI (i + 1))), (0, .ref (a 0)), (1, .int (nI j36)), (2, .int p1), (3, .int (nI j58)), (4, .int v12), (5, .int 0), (6, .int 0)]) dX11_plan_148 7 rfl (nI_add i 1) (by decide) rfl rfl ?_
                        refine x_goto C (tgt := 114) dX11_plan_151 (by decide) ?_
                        refine x_lv (lv1 := [(0, .ref (a 0)), (1, .int (nI j36)), (2, .int p1), (3, .int (nI j58)), (4, .int v12), (5, .int 0), (6, .int 0), (7, .int (nI (i + 1)))]) [1, 2, 3, 4, 5, 6, 7, 0] rfl ?_
                        exact ih114 (i + 1) trivial (by omega) (by omega)
                      · skip
                        have wi132 := wth_le (a := 0) (b := 7) (j := i) (x130 c131) (by omega) (by decide) (by decide)
                        refine x_bipush C (v := (-2)) dX11_plan_145 (by decide) rfl ?_
                        exact x_zret C hr hlk rfl dX11_plan_147 hW
              refine x_lv (lv1 := [(0, .ref (a 0)), (1, .int (nI j36)), (2, .int p1), (3, .int (nI j58)), (4, .int v12), (5, .int 0), (6, .int 0), (7, .int 0)]) [4, 5, 6, 7, 3, 2, 1, 0] rfl ?_
              exact loop114 _ 0 trivial (Nat.lt_succ_self _) (by omega)
            · skip
              refine x_iload C dX11_plan_104 0 rfl rfl ?_
              refine x_if_ne C (tgt := 111) dX11_plan_106 (by decide) rfl (fun h => absurd h (by decide)) (fun _ => ?_)
              refine x_iconst C (v := (-1)) dX11_plan_109 (by decide) rfl ?_
              exact x_zret C hr hlk rfl dX11_plan_110 hW
    · skip
      obtain ⟨j133, hl134, hh135, ej136⟩ := w_nat (a := 10) (b := 17) (by decide) (by decide) (x25 c26)
      subst ej136
      refine x_iload_n C dX11_plan_44 rfl 4 rfl rfl ?_
      refine x_iload_n C dX11_plan_45 rfl 5 rfl rfl ?_
      refine x_bipush C (v := 10) dX11_plan_46 (by decide) rfl ?_
      refine x_isub C (v := ((nI j133) - (10 : Int32))) dX11_plan_48 rfl rfl ?_
      refine x_any (fun v137 => ?_)
      refine x_si C (As := [.int p1, .int v137]) (rest := []) (c_isIn E l a ws hW p1 v137) mf_X11_isIn w_909 rfl rfl (Nat.le_of_ble_eq_true rfl) ⟨(Nat.le_of_ble_eq_true rfl), (Nat.le_of_ble_eq_true rfl)⟩ ⟨(Nat.le_of_ble_eq_true rfl), (Nat.le_of_ble_eq_true rfl)⟩ dX11_plan_49 rfl (fun r139 w140 h138 => ?_)
      obtain ⟨hW141, zb142, x143⟩ := h138
      refine x_ws hW141 ?_
      refine x_if_eq C (tgt := 59) dX11_plan_52 (by decide) rfl (fun c144 => ?_) (fun c144 => ?_)
      · skip
        refine x_iconst C (v := 0) dX11_plan_59 (by decide) rfl ?_
        refine x_istore C (lv' := [(6, .int 0), (5, .int 0), (4, .int v12), (0, .ref (a 0)), (1, .int p0), (2, .int p1), (3, .int (nI j133))]) dX11_plan_60 (by decide) rfl rfl ?_
        refine x_aload_n C dX11_plan_62 rfl 3 rfl rfl ?_
        refine x_get C (ci := 10) (k := 2) 0 k1 rfl in_X11 (by decide) w_387 rfl dX11_plan_63 rfl ?_
        refine x_get C (ci := 8) (k := 3) 5 k3 rfl in_X9 (by decide) w_204 rfl dX11_plan_66 rfl ?_
        refine x_iload_n C dX11_plan_69 rfl 4 rfl rfl ?_
        obtain ⟨_, k145, v146, rfl⟩ := hW 9 _ rfl
        refine x_vi C (As := [.int p0]) (rest := []) (c_People_isTold E l a ws hW 5 (Or.inl rfl) p0) mf_X5_isTold w_465 9 k145 rfl rfl rfl (Nat.le_of_ble_eq_true rfl) ⟨(Nat.le_of_ble_eq_true rfl), (Nat.le_of_ble_eq_true rfl)⟩ ⟨(Nat.le_of_ble_eq_true rfl), (Nat.le_of_ble_eq_true rfl)⟩ dX11_plan_70 rfl (fun r148 w149 h147 => ?_)
        obtain ⟨hW150, zb151, x152⟩ := h147
        refine x_ws hW150 ?_
        refine x_if_eq C (tgt := 109) dX11_plan_73 (by decide) rfl (fun c153 => ?_) (fun c153 => ?_)
        · skip
          refine x_iconst C (v := (-1)) dX11_plan_109 (by decide) rfl ?_
          exact x_zret C hr hlk rfl dX11_plan_110 hW
        · skip
          obtain ⟨j154, hl155, hh156, ej157⟩ := w_nat (a := 0) (b := 7) (by decide) (by decide) (x152 c153)
          subst ej157
          refine x_iload C dX11_plan_76 1 rfl rfl ?_
          refine x_iconst C (v := 1) dX11_plan_78 (by decide) rfl ?_
          refine x_iconst C (v := 4) dX11_plan_79 (by decide) rfl ?_
          refine x_si C (As := [.int 0, .int 1, .int 4]) (rest := []) (c_isWithin E l a ws hW (0 : Int32) (1 : Int32) (4 : Int32)) mf_X11_isWithin w_462 rfl rfl (Nat.le_of_ble_eq_true rfl) ⟨(Nat.le_of_ble_eq_true rfl), (Nat.le_of_ble_eq_true rfl)⟩ ⟨(Nat.le_of_ble_eq_true rfl), (Nat.le_of_ble_eq_true rfl)⟩ dX11_plan_80 rfl (fun r159 w160 h158 => ?_)
          obtain ⟨hW161, zb162, x163⟩ := h158
          refine x_ws hW161 ?_
          refine x_if_eq C (tgt := 109) dX11_plan_83 (by decide) rfl (fun c164 => ?_) (fun c164 => ?_)
          · skip
            refine x_iconst C (v := (-1)) dX11_plan_109 (by decide) rfl ?_
            exact x_zret C hr hlk rfl dX11_plan_110 hW
          · skip
            have wi165 := x163 c164
            refine x_iload_n C dX11_plan_86 rfl 5 rfl rfl ?_
            refine x_iload C dX11_plan_87 2 rfl rfl ?_
            refine x_iconst C (v := (-1)) dX11_plan_89 (by decide) rfl ?_
            refine x_ixor C (v := (v12 ^^^ ((-1) : Int32))) dX11_plan_90 rfl rfl ?_
            refine x_any (fun v166 => ?_)
            refine x_iand C (v := (p1 &&& v166)) dX11_plan_91 rfl rfl ?_
            refine x_any (fun v167 => ?_)
            refine x_if_ne C (tgt := 109) dX11_plan_92 (by decide) rfl (fun c168 => ?_) (fun c168 => ?_)
            · skip
              refine x_iconst C (v := (-1)) dX11_plan_109 (by decide) rfl ?_
              exact x_zret C hr hlk rfl dX11_plan_110 hW
            · skip
              refine x_iload_n C dX11_plan_95 rfl 6 rfl rfl ?_
              refine x_iconst C (v := 0) dX11_plan_96 (by decide) rfl ?_
              refine x_iconst C (v := 1) dX11_plan_97 (by decide) rfl ?_
              refine x_si C (As := [.int (nI j133), .int 0, .int 1]) (rest := []) (c_isWithin E l a ws hW ((nI j133)) (0 : Int32) (1 : Int32)) mf_X11_isWithin w_462 rfl rfl (Nat.le_of_ble_eq_true rfl) ⟨(Nat.le_of_ble_eq_true rfl), (Nat.le_of_ble_eq_true rfl)⟩ ⟨(Nat.le_of_ble_eq_true rfl), (Nat.le_of_ble_eq_true rfl)⟩ dX11_plan_98 rfl (fun r170 w171 h169 => ?_)
              obtain ⟨hW172, zb173, x174⟩ := h169
              refine x_ws hW172 ?_
              refine x_if_ne C (tgt := 111) dX11_plan_101 (by decide) rfl (fun c175 => ?_) (fun c175 => ?_)
              · skip
                have wi176 := x174 c175
                refine x_iconst C (v := 0) dX11_plan_111 (by decide) rfl ?_
                refine x_istore C (lv' := [(7, .int 0), (6, .int 0), (5, .int 0), (4, .int v12), (0, .ref (a 0)), (1, .int (nI j154)), (2, .int p1), (3, .int (nI j133))]) dX11_plan_112 (by decide) rfl rfl ?_
                have loop114 : ∀ (fu114 : Nat) (i : Nat), True → 8 - i < fu114 → i ≤ 8 → X E p l e (xRm 8 0 0) s m ([.ref (a 0), .int (nI j154), .int p1, .int (nI j133)] : List Value).toArray below meth c A 8 0 0 (MQ below (va_Qi (fun r w => WX (okX E a) w) (xB E A) A) ([.ref (a 0), .int (nI j154), .int p1, .int (nI j133)] : List Value).toArray s 0 0 A) ws 114 [(0, .ref (a 0)), (1, .int (nI j154)), (2, .int p1), (3, .int (nI j133)), (4, .int v12), (5, .int 0), (6, .int 0), (7, .int (nI i))] [] := by
                  intro fu114
                  induction fu114 with
                  | zero => intro i _ q; omega
                  | succ fu114 ih114 =>
                    intro i _ me114 iv114_0
                    refine x_iload C dX11_plan_114 7 rfl rfl ?_
                    refine x_bipush C (v := 8) dX11_plan_116 (by decide) rfl ?_
                    refine x_icmp_ge C (tgt := 154) dX11_plan_118 (by decide) rfl (fun c177 => ?_) (fun c177 => ?_)
                    · skip
                      have nf178 := nI_le' (a := 8) (b := i) c177 (by omega) (by omega)
                      refine x_aload_n C dX11_plan_154 rfl 0 rfl rfl ?_
                      refine x_get C (ci := 10) (k := 9) 0 k1 rfl in_X11 (by decide) w_394 rfl dX11_plan_155 rfl ?_
                      refine x_aload_n C dX11_plan_158 rfl 0 rfl rfl ?_
                      refine x_get C (ci := 10) (k := 2) 0 k1 rfl in_X11 (by decide) w_387 rfl dX11_plan_159 rfl ?_
                      refine x_aload_n C dX11_plan_162 rfl 0 rfl rfl ?_
                      refine x_get C (ci := 10) (k := 6) 0 k1 rfl in_X11 (by decide) w_391 rfl dX11_plan_163 rfl ?_
                      refine x_iload_n C dX11_plan_166 rfl 1 rfl rfl ?_
                      refine x_iload_n C dX11_plan_167 rfl 2 rfl rfl ?_
                      obtain ⟨_, k179, n180, n182, v184, bn181, bn183, rfl⟩ := hW 92 _ rfl
                      refine x_vv C (As := [.ref (a 5), .ref (a 71), .int (nI j154), .int p1]) (rest := []) (c_planFind E l a ws hW 5 (Or.inl rfl) ((nI j154)) p1) mf_X6_find w_910 92 k179 rfl rfl rfl (Nat.le_of_ble_eq_true rfl) ⟨(Nat.le_of_ble_eq_true rfl), (Nat.le_of_ble_eq_true rfl)⟩ ⟨(Nat.le_of_ble_eq_true rfl), (Nat.le_of_ble_eq_true rfl)⟩ dX11_plan_168 rfl (fun w187 h185 => ?_)
                      obtain ⟨hW188, kq189⟩ := h185
                      have k190 : w187[0]? = some (ob (a 0) 10 [.ref (a 1), .ref (a 3), .ref (a 5), .ref (a 27), .ref (a 49), .int v2, .ref (a 71), .ref (a 79), .ref (a 87), .ref (a 92), .ref (a 103), .ref (a 105), .ref (a 106), .ref (a 107), .ref (a 108), .ref (a 109), .ref (a 110), .ref (a 111), .ref (a 112)]) := keeps_at kq189 k1 (by first | decide | omega | (dsimp only; omega))
                      have k191 : w187[5]? = some (ob (a 5) 8 [.int (nI n4), .int v6, .ref (a 6), .ref (a 9), .ref (a 14), .ref (a 21), .int v7, .int v8, .int v9, .int v10]) := keeps_at kq189 k3 (by first | decide | omega | (dsimp only; omega))
                      have k192 : w187[21]? = some (ob (a 21) 9 [.int v12, .ref (a 22), .ref (a 23), .ref (a 24), .ref (a 25), .ref (a 26)]) := keeps_at kq189 k11 (by first | decide | omega | (dsimp only; omega))
                      have k193 : w187[9]? = some (ob (a 9) 4 [.int v146, .ref (a 10), .ref (a 11), .ref (a 12), .ref (a 13)]) := keeps_at kq189 k145 (by first | decide | omega | (dsimp only; omega))
                      refine x_iload_n C dX11_plan_171 rfl 3 rfl rfl ?_
                      refine x_if_ne C (tgt := 183) dX11_plan_172 (by decide) rfl (fun c194 => ?_) (fun c194 => ?_)
                      · skip
                        have nf195 : ¬ j133 = 0 := fun q => c194 (congrArg nI q)
                        refine x_iload_n C dX11_plan_183 rfl 3 rfl rfl ?_
                        refine x_iconst C (v := 1) dX11_plan_184 (by decide) rfl ?_
                        refine x_icmp_ne C (tgt := 198) dX11_plan_185 (by decide) rfl (fun c196 => ?_) (fun c196 => ?_)
                        · skip
                          have nf197 : ¬ j133 = 1 := fun q => c196 (congrArg nI q)
                          refine x_aload_n C dX11_plan_198 rfl 0 rfl rfl ?_
                          refine x_get C (ci := 10) (k := 9) 0 k190 rfl in_X11 (by decide) w_394 rfl dX11_plan_199 rfl ?_
                          refine x_iload_n C dX11_plan_202 rfl 3 rfl rfl ?_
                          refine x_bipush C (v := 10) dX11_plan_203 (by decide) rfl ?_
                          refine x_isub C (v := ((nI j133) - (10 : Int32))) dX11_plan_205 rfl rfl ?_
                          refine x_any (fun v198 => ?_)
                          obtain ⟨_, k199, n200, n202, v204, bn201, bn203, rfl⟩ := hW188 92 _ rfl
                          refine x_vi C (As := [.int v198]) (rest := []) (c_rowOf E l a w187 hW188 v198) mf_X6_rowOf w_950 92 k199 rfl rfl rfl (Nat.le_of_ble_eq_true rfl) ⟨(Nat.le_of_ble_eq_true rfl), (Nat.le_of_ble_eq_true rfl)⟩ ⟨(Nat.le_of_ble_eq_true rfl), (Nat.le_of_ble_eq_true rfl)⟩ dX11_plan_206 rfl (fun r206 w207 h205 => ?_)
                          have hW208 := h205
                          refine x_ws hW208 ?_
                          exact x_zret C hr hlk rfl dX11_plan_209 hW188
                        · skip
                          have nf209 : j133 = 1 := (nI_eq (by omega) (by omega)).mp c196
                          refine x_aload_n C dX11_plan_188 rfl 0 rfl rfl ?_
                          refine x_get C (ci := 10) (k := 9) 0 k190 rfl in_X11 (by decide) w_394 rfl dX11_plan_189 rfl ?_
                          obtain ⟨_, k210, n211, n213, v215, bn212, bn214, rfl⟩ := hW188 92 _ rfl
                          refine x_vi C (As := []) (rest := []) (c_bestEggs E l a w187 hW188) mf_X6_bestEggs w_945 92 k210 rfl rfl rfl (Nat.le_of_ble_eq_true rfl) ⟨(Nat.le_of_ble_eq_true rfl), (Nat.le_of_ble_eq_true rfl)⟩ ⟨(Nat.le_of_ble_eq_true rfl), (Nat.le_of_ble_eq_true rfl)⟩ dX11_plan_192 rfl (fun r217 w218 h216 => ?_)
                          have hW219 := h216
                          refine x_ws hW219 ?_
                          refine x_goto C (tgt := 209) dX11_plan_195 (by decide) ?_
                          exact x_zret C hr hlk rfl dX11_plan_209 hW188
                      · skip
                        have nf220 : j133 = 0 := (nI_eq (by omega) (by omega)).mp c194
                        refine x_aload_n C dX11_plan_175 rfl 0 rfl rfl ?_
                        refine x_get C (ci := 10) (k := 9) 0 k190 rfl in_X11 (by decide) w_394 rfl dX11_plan_176 rfl ?_
                        obtain ⟨_, k221, n222, n224, v226, bn223, bn225, rfl⟩ := hW188 92 _ rfl
                        refine x_vi C (As := []) (rest := []) (c_bestWorth E l a w187 hW188) mf_X6_bestWorth w_941 92 k221 rfl rfl rfl (Nat.le_of_ble_eq_true rfl) ⟨(Nat.le_of_ble_eq_true rfl), (Nat.le_of_ble_eq_true rfl)⟩ ⟨(Nat.le_of_ble_eq_true rfl), (Nat.le_of_ble_eq_true rfl)⟩ dX11_plan_179 rfl (fun r228 w229 h227 => ?_)
                        have hW230 := h227
                        refine x_ws hW230 ?_
                        exact x_zret C hr hlk rfl dX11_plan_182 hW188
                    · skip
                      have nf231 := nI_nle' (a := 8) (b := i) c177 (by omega) (by omega)
                      refine x_iload_n C dX11_plan_121 rfl 2 rfl rfl ?_
                      refine x_iload C dX11_plan_122 7 rfl rfl ?_
                      refine x_si C (As := [.int p1, .int (nI i)]) (rest := []) (c_isIn E l a ws hW p1 ((nI i))) mf_X11_isIn w_909 rfl rfl (Nat.le_of_ble_eq_true rfl) ⟨(Nat.le_of_ble_eq_true rfl), (Nat.le_of_ble_eq_true rfl)⟩ ⟨(Nat.le_of_ble_eq_true rfl), (Nat.le_of_ble_eq_true rfl)⟩ dX11_plan_124 rfl (fun r233 w234 h232 => ?_)
                      obtain ⟨hW235, zb236, x237⟩ := h232
                      refine x_ws hW235 ?_
                      refine x_if_eq C (tgt := 148) dX11_plan_127 (by decide) rfl (fun c238 => ?_) (fun c238 => ?_)
                      · skip
                        refine x_iinc C (v := (nI (i + 1))) (lv' := [(7, .int (nI (i + 1))), (0, .ref (a 0)), (1, .int (nI j154)), (2, .int p1), (3, .int (nI j133)), (4, .int v12), (5, .int 0), (6, .int 0)]) dX11_plan_148 7 rfl (nI_add i 1) (by decide) rfl rfl ?_
                        refine x_goto C (tgt := 114) dX11_plan_151 (by decide) ?_
                        refine x_lv (lv1 := [(0, .ref (a 0)), (1, .int (nI j154)), (2, .int p1), (3, .int (nI j133)), (4, .int v12), (5, .int 0), (6, .int 0), (7, .int (nI (i + 1)))]) [1, 2, 3, 4, 5, 6, 7, 0] rfl ?_
                        exact ih114 (i + 1) trivial (by omega) (by omega)
                      · skip
                        have wi239 := wth_le (a := 0) (b := 7) (j := i) (x237 c238) (by omega) (by decide) (by decide)
                        refine x_aload_n C dX11_plan_130 rfl 0 rfl rfl ?_
                        refine x_get C (ci := 10) (k := 2) 0 k1 rfl in_X11 (by decide) w_387 rfl dX11_plan_131 rfl ?_
                        refine x_get C (ci := 8) (k := 5) 5 k3 rfl in_X9 (by decide) w_213 rfl dX11_plan_134 rfl ?_
                        refine x_iload C dX11_plan_137 7 rfl rfl ?_
                        refine x_vi C (As := [.int (nI i)]) (rest := []) (c_Works_isDone E l a ws hW 5 (Or.inl rfl) ((nI i))) mf_X10_isDone w_894 21 k11 rfl rfl rfl (Nat.le_of_ble_eq_true rfl) ⟨(Nat.le_of_ble_eq_true rfl), (Nat.le_of_ble_eq_true rfl)⟩ ⟨(Nat.le_of_ble_eq_true rfl), (Nat.le_of_ble_eq_true rfl)⟩ dX11_plan_139 rfl (fun r241 w242 h240 => ?_)
                        obtain ⟨hW243, zb244, x245⟩ := h240
                        refine x_ws hW243 ?_
                        refine x_if_eq C (tgt := 148) dX11_plan_142 (by decide) rfl (fun c246 => ?_) (fun c246 => ?_)
                        · skip
                          refine x_iinc C (v := (nI (i + 1))) (lv' := [(7, .int (nI (i + 1))), (0, .ref (a 0)), (1, .int (nI j154)), (2, .int p1), (3, .int (nI j133)), (4, .int v12), (5, .int 0), (6, .int 0)]) dX11_plan_148 7 rfl (nI_add i 1) (by decide) rfl rfl ?_
                          refine x_goto C (tgt := 114) dX11_plan_151 (by decide) ?_
                          refine x_lv (lv1 := [(0, .ref (a 0)), (1, .int (nI j154)), (2, .int p1), (3, .int (nI j133)), (4, .int v12), (5, .int 0), (6, .int 0), (7, .int (nI (i + 1)))]) [1, 2, 3, 4, 5, 6, 7, 0] rfl ?_
                          exact ih114 (i + 1) trivial (by omega) (by omega)
                        · skip
                          have wi247 := wth_le (a := 0) (b := 7) (j := i) (x245 c246) (by omega) (by decide) (by decide)
                          refine x_bipush C (v := (-2)) dX11_plan_145 (by decide) rfl ?_
                          exact x_zret C hr hlk rfl dX11_plan_147 hW
                refine x_lv (lv1 := [(0, .ref (a 0)), (1, .int (nI j154)), (2, .int p1), (3, .int (nI j133)), (4, .int v12), (5, .int 0), (6, .int 0), (7, .int 0)]) [4, 5, 6, 7, 3, 2, 1, 0] rfl ?_
                exact loop114 _ 0 trivial (Nat.lt_succ_self _) (by omega)
              · skip
                refine x_iload C dX11_plan_104 0 rfl rfl ?_
                refine x_if_ne C (tgt := 111) dX11_plan_106 (by decide) rfl (fun h => absurd h (by decide)) (fun _ => ?_)
                refine x_iconst C (v := (-1)) dX11_plan_109 (by decide) rfl ?_
                exact x_zret C hr hlk rfl dX11_plan_110 hW
      · skip
        obtain ⟨j248, hl249, hh250, ej251⟩ := w_nat (a := 0) (b := 7) (by decide) (by decide) (x143 c144)
        subst ej251
        refine x_iconst C (v := 1) dX11_plan_55 (by decide) rfl ?_
        refine x_goto C (tgt := 60) dX11_plan_56 (by decide) ?_
        refine x_istore C (lv' := [(6, .int 1), (5, .int 0), (4, .int v12), (0, .ref (a 0)), (1, .int p0), (2, .int p1), (3, .int (nI j133))]) dX11_plan_60 (by decide) rfl rfl ?_
        refine x_aload_n C dX11_plan_62 rfl 3 rfl rfl ?_
        refine x_get C (ci := 10) (k := 2) 0 k1 rfl in_X11 (by decide) w_387 rfl dX11_plan_63 rfl ?_
        refine x_get C (ci := 8) (k := 3) 5 k3 rfl in_X9 (by decide) w_204 rfl dX11_plan_66 rfl ?_
        refine x_iload_n C dX11_plan_69 rfl 4 rfl rfl ?_
        obtain ⟨_, k252, v253, rfl⟩ := hW 9 _ rfl
        refine x_vi C (As := [.int p0]) (rest := []) (c_People_isTold E l a ws hW 5 (Or.inl rfl) p0) mf_X5_isTold w_465 9 k252 rfl rfl rfl (Nat.le_of_ble_eq_true rfl) ⟨(Nat.le_of_ble_eq_true rfl), (Nat.le_of_ble_eq_true rfl)⟩ ⟨(Nat.le_of_ble_eq_true rfl), (Nat.le_of_ble_eq_true rfl)⟩ dX11_plan_70 rfl (fun r255 w256 h254 => ?_)
        obtain ⟨hW257, zb258, x259⟩ := h254
        refine x_ws hW257 ?_
        refine x_if_eq C (tgt := 109) dX11_plan_73 (by decide) rfl (fun c260 => ?_) (fun c260 => ?_)
        · skip
          refine x_iconst C (v := (-1)) dX11_plan_109 (by decide) rfl ?_
          exact x_zret C hr hlk rfl dX11_plan_110 hW
        · skip
          obtain ⟨j261, hl262, hh263, ej264⟩ := w_nat (a := 0) (b := 7) (by decide) (by decide) (x259 c260)
          subst ej264
          refine x_iload C dX11_plan_76 1 rfl rfl ?_
          refine x_iconst C (v := 1) dX11_plan_78 (by decide) rfl ?_
          refine x_iconst C (v := 4) dX11_plan_79 (by decide) rfl ?_
          refine x_si C (As := [.int 0, .int 1, .int 4]) (rest := []) (c_isWithin E l a ws hW (0 : Int32) (1 : Int32) (4 : Int32)) mf_X11_isWithin w_462 rfl rfl (Nat.le_of_ble_eq_true rfl) ⟨(Nat.le_of_ble_eq_true rfl), (Nat.le_of_ble_eq_true rfl)⟩ ⟨(Nat.le_of_ble_eq_true rfl), (Nat.le_of_ble_eq_true rfl)⟩ dX11_plan_80 rfl (fun r266 w267 h265 => ?_)
          obtain ⟨hW268, zb269, x270⟩ := h265
          refine x_ws hW268 ?_
          refine x_if_eq C (tgt := 109) dX11_plan_83 (by decide) rfl (fun c271 => ?_) (fun c271 => ?_)
          · skip
            refine x_iconst C (v := (-1)) dX11_plan_109 (by decide) rfl ?_
            exact x_zret C hr hlk rfl dX11_plan_110 hW
          · skip
            have wi272 := x270 c271
            refine x_iload_n C dX11_plan_86 rfl 5 rfl rfl ?_
            refine x_iload C dX11_plan_87 2 rfl rfl ?_
            refine x_iconst C (v := (-1)) dX11_plan_89 (by decide) rfl ?_
            refine x_ixor C (v := (v12 ^^^ ((-1) : Int32))) dX11_plan_90 rfl rfl ?_
            refine x_any (fun v273 => ?_)
            refine x_iand C (v := (p1 &&& v273)) dX11_plan_91 rfl rfl ?_
            refine x_any (fun v274 => ?_)
            refine x_if_ne C (tgt := 109) dX11_plan_92 (by decide) rfl (fun c275 => ?_) (fun c275 => ?_)
            · skip
              refine x_iconst C (v := (-1)) dX11_plan_109 (by decide) rfl ?_
              exact x_zret C hr hlk rfl dX11_plan_110 hW
            · skip
              refine x_iload_n C dX11_plan_95 rfl 6 rfl rfl ?_
              refine x_iconst C (v := 0) dX11_plan_96 (by decide) rfl ?_
              refine x_iconst C (v := 1) dX11_plan_97 (by decide) rfl ?_
              refine x_si C (As := [.int (nI j133), .int 0, .int 1]) (rest := []) (c_isWithin E l a ws hW ((nI j133)) (0 : Int32) (1 : Int32)) mf_X11_isWithin w_462 rfl rfl (Nat.le_of_ble_eq_true rfl) ⟨(Nat.le_of_ble_eq_true rfl), (Nat.le_of_ble_eq_true rfl)⟩ ⟨(Nat.le_of_ble_eq_true rfl), (Nat.le_of_ble_eq_true rfl)⟩ dX11_plan_98 rfl (fun r277 w278 h276 => ?_)
              obtain ⟨hW279, zb280, x281⟩ := h276
              refine x_ws hW279 ?_
              refine x_if_ne C (tgt := 111) dX11_plan_101 (by decide) rfl (fun c282 => ?_) (fun c282 => ?_)
              · skip
                have wi283 := x281 c282
                refine x_iconst C (v := 0) dX11_plan_111 (by decide) rfl ?_
                refine x_istore C (lv' := [(7, .int 0), (6, .int 1), (5, .int 0), (4, .int v12), (0, .ref (a 0)), (1, .int (nI j261)), (2, .int p1), (3, .int (nI j133))]) dX11_plan_112 (by decide) rfl rfl ?_
                have loop114 : ∀ (fu114 : Nat) (i : Nat), True → 8 - i < fu114 → i ≤ 8 → X E p l e (xRm 8 0 0) s m ([.ref (a 0), .int (nI j261), .int p1, .int (nI j133)] : List Value).toArray below meth c A 8 0 0 (MQ below (va_Qi (fun r w => WX (okX E a) w) (xB E A) A) ([.ref (a 0), .int (nI j261), .int p1, .int (nI j133)] : List Value).toArray s 0 0 A) ws 114 [(0, .ref (a 0)), (1, .int (nI j261)), (2, .int p1), (3, .int (nI j133)), (4, .int v12), (5, .int 0), (6, .int 1), (7, .int (nI i))] [] := by
                  intro fu114
                  induction fu114 with
                  | zero => intro i _ q; omega
                  | succ fu114 ih114 =>
                    intro i _ me114 iv114_0
                    refine x_iload C dX11_plan_114 7 rfl rfl ?_
                    refine x_bipush C (v := 8) dX11_plan_116 (by decide) rfl ?_
                    refine x_icmp_ge C (tgt := 154) dX11_plan_118 (by decide) rfl (fun c284 => ?_) (fun c284 => ?_)
                    · skip
                      have nf285 := nI_le' (a := 8) (b := i) c284 (by omega) (by omega)
                      refine x_aload_n C dX11_plan_154 rfl 0 rfl rfl ?_
                      refine x_get C (ci := 10) (k := 9) 0 k1 rfl in_X11 (by decide) w_394 rfl dX11_plan_155 rfl ?_
                      refine x_aload_n C dX11_plan_158 rfl 0 rfl rfl ?_
                      refine x_get C (ci := 10) (k := 2) 0 k1 rfl in_X11 (by decide) w_387 rfl dX11_plan_159 rfl ?_
                      refine x_aload_n C dX11_plan_162 rfl 0 rfl rfl ?_
                      refine x_get C (ci := 10) (k := 6) 0 k1 rfl in_X11 (by decide) w_391 rfl dX11_plan_163 rfl ?_
                      refine x_iload_n C dX11_plan_166 rfl 1 rfl rfl ?_
                      refine x_iload_n C dX11_plan_167 rfl 2 rfl rfl ?_
                      obtain ⟨_, k286, n287, n289, v291, bn288, bn290, rfl⟩ := hW 92 _ rfl
                      refine x_vv C (As := [.ref (a 5), .ref (a 71), .int (nI j261), .int p1]) (rest := []) (c_planFind E l a ws hW 5 (Or.inl rfl) ((nI j261)) p1) mf_X6_find w_910 92 k286 rfl rfl rfl (Nat.le_of_ble_eq_true rfl) ⟨(Nat.le_of_ble_eq_true rfl), (Nat.le_of_ble_eq_true rfl)⟩ ⟨(Nat.le_of_ble_eq_true rfl), (Nat.le_of_ble_eq_true rfl)⟩ dX11_plan_168 rfl (fun w294 h292 => ?_)
                      obtain ⟨hW295, kq296⟩ := h292
                      have k297 : w294[0]? = some (ob (a 0) 10 [.ref (a 1), .ref (a 3), .ref (a 5), .ref (a 27), .ref (a 49), .int v2, .ref (a 71), .ref (a 79), .ref (a 87), .ref (a 92), .ref (a 103), .ref (a 105), .ref (a 106), .ref (a 107), .ref (a 108), .ref (a 109), .ref (a 110), .ref (a 111), .ref (a 112)]) := keeps_at kq296 k1 (by first | decide | omega | (dsimp only; omega))
                      have k298 : w294[5]? = some (ob (a 5) 8 [.int (nI n4), .int v6, .ref (a 6), .ref (a 9), .ref (a 14), .ref (a 21), .int v7, .int v8, .int v9, .int v10]) := keeps_at kq296 k3 (by first | decide | omega | (dsimp only; omega))
                      have k299 : w294[21]? = some (ob (a 21) 9 [.int v12, .ref (a 22), .ref (a 23), .ref (a 24), .ref (a 25), .ref (a 26)]) := keeps_at kq296 k11 (by first | decide | omega | (dsimp only; omega))
                      have k300 : w294[9]? = some (ob (a 9) 4 [.int v253, .ref (a 10), .ref (a 11), .ref (a 12), .ref (a 13)]) := keeps_at kq296 k252 (by first | decide | omega | (dsimp only; omega))
                      refine x_iload_n C dX11_plan_171 rfl 3 rfl rfl ?_
                      refine x_if_ne C (tgt := 183) dX11_plan_172 (by decide) rfl (fun c301 => ?_) (fun c301 => ?_)
                      · skip
                        have nf302 : ¬ j133 = 0 := fun q => c301 (congrArg nI q)
                        refine x_iload_n C dX11_plan_183 rfl 3 rfl rfl ?_
                        refine x_iconst C (v := 1) dX11_plan_184 (by decide) rfl ?_
                        refine x_icmp_ne C (tgt := 198) dX11_plan_185 (by decide) rfl (fun c303 => ?_) (fun c303 => ?_)
                        · skip
                          have nf304 : ¬ j133 = 1 := fun q => c303 (congrArg nI q)
                          refine x_aload_n C dX11_plan_198 rfl 0 rfl rfl ?_
                          refine x_get C (ci := 10) (k := 9) 0 k297 rfl in_X11 (by decide) w_394 rfl dX11_plan_199 rfl ?_
                          refine x_iload_n C dX11_plan_202 rfl 3 rfl rfl ?_
                          refine x_bipush C (v := 10) dX11_plan_203 (by decide) rfl ?_
                          refine x_isub C (v := ((nI j133) - (10 : Int32))) dX11_plan_205 rfl rfl ?_
                          refine x_any (fun v305 => ?_)
                          obtain ⟨_, k306, n307, n309, v311, bn308, bn310, rfl⟩ := hW295 92 _ rfl
                          refine x_vi C (As := [.int v305]) (rest := []) (c_rowOf E l a w294 hW295 v305) mf_X6_rowOf w_950 92 k306 rfl rfl rfl (Nat.le_of_ble_eq_true rfl) ⟨(Nat.le_of_ble_eq_true rfl), (Nat.le_of_ble_eq_true rfl)⟩ ⟨(Nat.le_of_ble_eq_true rfl), (Nat.le_of_ble_eq_true rfl)⟩ dX11_plan_206 rfl (fun r313 w314 h312 => ?_)
                          have hW315 := h312
                          refine x_ws hW315 ?_
                          exact x_zret C hr hlk rfl dX11_plan_209 hW295
                        · skip
                          have nf316 : j133 = 1 := (nI_eq (by omega) (by omega)).mp c303
                          refine x_aload_n C dX11_plan_188 rfl 0 rfl rfl ?_
                          refine x_get C (ci := 10) (k := 9) 0 k297 rfl in_X11 (by decide) w_394 rfl dX11_plan_189 rfl ?_
                          obtain ⟨_, k317, n318, n320, v322, bn319, bn321, rfl⟩ := hW295 92 _ rfl
                          refine x_vi C (As := []) (rest := []) (c_bestEggs E l a w294 hW295) mf_X6_bestEggs w_945 92 k317 rfl rfl rfl (Nat.le_of_ble_eq_true rfl) ⟨(Nat.le_of_ble_eq_true rfl), (Nat.le_of_ble_eq_true rfl)⟩ ⟨(Nat.le_of_ble_eq_true rfl), (Nat.le_of_ble_eq_true rfl)⟩ dX11_plan_192 rfl (fun r324 w325 h323 => ?_)
                          have hW326 := h323
                          refine x_ws hW326 ?_
                          refine x_goto C (tgt := 209) dX11_plan_195 (by decide) ?_
                          exact x_zret C hr hlk rfl dX11_plan_209 hW295
                      · skip
                        have nf327 : j133 = 0 := (nI_eq (by omega) (by omega)).mp c301
                        refine x_aload_n C dX11_plan_175 rfl 0 rfl rfl ?_
                        refine x_get C (ci := 10) (k := 9) 0 k297 rfl in_X11 (by decide) w_394 rfl dX11_plan_176 rfl ?_
                        obtain ⟨_, k328, n329, n331, v333, bn330, bn332, rfl⟩ := hW295 92 _ rfl
                        refine x_vi C (As := []) (rest := []) (c_bestWorth E l a w294 hW295) mf_X6_bestWorth w_941 92 k328 rfl rfl rfl (Nat.le_of_ble_eq_true rfl) ⟨(Nat.le_of_ble_eq_true rfl), (Nat.le_of_ble_eq_true rfl)⟩ ⟨(Nat.le_of_ble_eq_true rfl), (Nat.le_of_ble_eq_true rfl)⟩ dX11_plan_179 rfl (fun r335 w336 h334 => ?_)
                        have hW337 := h334
                        refine x_ws hW337 ?_
                        exact x_zret C hr hlk rfl dX11_plan_182 hW295
                    · skip
                      have nf338 := nI_nle' (a := 8) (b := i) c284 (by omega) (by omega)
                      refine x_iload_n C dX11_plan_121 rfl 2 rfl rfl ?_
                      refine x_iload C dX11_plan_122 7 rfl rfl ?_
                      refine x_si C (As := [.int p1, .int (nI i)]) (rest := []) (c_isIn E l a ws hW p1 ((nI i))) mf_X11_isIn w_909 rfl rfl (Nat.le_of_ble_eq_true rfl) ⟨(Nat.le_of_ble_eq_true rfl), (Nat.le_of_ble_eq_true rfl)⟩ ⟨(Nat.le_of_ble_eq_true rfl), (Nat.le_of_ble_eq_true rfl)⟩ dX11_plan_124 rfl (fun r340 w341 h339 => ?_)
                      obtain ⟨hW342, zb343, x344⟩ := h339
                      refine x_ws hW342 ?_
                      refine x_if_eq C (tgt := 148) dX11_plan_127 (by decide) rfl (fun c345 => ?_) (fun c345 => ?_)
                      · skip
                        refine x_iinc C (v := (nI (i + 1))) (lv' := [(7, .int (nI (i + 1))), (0, .ref (a 0)), (1, .int (nI j261)), (2, .int p1), (3, .int (nI j133)), (4, .int v12), (5, .int 0), (6, .int 1)]) dX11_plan_148 7 rfl (nI_add i 1) (by decide) rfl rfl ?_
                        refine x_goto C (tgt := 114) dX11_plan_151 (by decide) ?_
                        refine x_lv (lv1 := [(0, .ref (a 0)), (1, .int (nI j261)), (2, .int p1), (3, .int (nI j133)), (4, .int v12), (5, .int 0), (6, .int 1), (7, .int (nI (i + 1)))]) [1, 2, 3, 4, 5, 6, 7, 0] rfl ?_
                        exact ih114 (i + 1) trivial (by omega) (by omega)
                      · skip
                        have wi346 := wth_le (a := 0) (b := 7) (j := i) (x344 c345) (by omega) (by decide) (by decide)
                        refine x_aload_n C dX11_plan_130 rfl 0 rfl rfl ?_
                        refine x_get C (ci := 10) (k := 2) 0 k1 rfl in_X11 (by decide) w_387 rfl dX11_plan_131 rfl ?_
                        refine x_get C (ci := 8) (k := 5) 5 k3 rfl in_X9 (by decide) w_213 rfl dX11_plan_134 rfl ?_
                        refine x_iload C dX11_plan_137 7 rfl rfl ?_
                        refine x_vi C (As := [.int (nI i)]) (rest := []) (c_Works_isDone E l a ws hW 5 (Or.inl rfl) ((nI i))) mf_X10_isDone w_894 21 k11 rfl rfl rfl (Nat.le_of_ble_eq_true rfl) ⟨(Nat.le_of_ble_eq_true rfl), (Nat.le_of_ble_eq_true rfl)⟩ ⟨(Nat.le_of_ble_eq_true rfl), (Nat.le_of_ble_eq_true rfl)⟩ dX11_plan_139 rfl (fun r348 w349 h347 => ?_)
                        obtain ⟨hW350, zb351, x352⟩ := h347
                        refine x_ws hW350 ?_
                        refine x_if_eq C (tgt := 148) dX11_plan_142 (by decide) rfl (fun c353 => ?_) (fun c353 => ?_)
                        · skip
                          refine x_iinc C (v := (nI (i + 1))) (lv' := [(7, .int (nI (i + 1))), (0, .ref (a 0)), (1, .int (nI j261)), (2, .int p1), (3, .int (nI j133)), (4, .int v12), (5, .int 0), (6, .int 1)]) dX11_plan_148 7 rfl (nI_add i 1) (by decide) rfl rfl ?_
                          refine x_goto C (tgt := 114) dX11_plan_151 (by decide) ?_
                          refine x_lv (lv1 := [(0, .ref (a 0)), (1, .int (nI j261)), (2, .int p1), (3, .int (nI j133)), (4, .int v12), (5, .int 0), (6, .int 1), (7, .int (nI (i + 1)))]) [1, 2, 3, 4, 5, 6, 7, 0] rfl ?_
                          exact ih114 (i + 1) trivial (by omega) (by omega)
                        · skip
                          have wi354 := wth_le (a := 0) (b := 7) (j := i) (x352 c353) (by omega) (by decide) (by decide)
                          refine x_bipush C (v := (-2)) dX11_plan_145 (by decide) rfl ?_
                          exact x_zret C hr hlk rfl dX11_plan_147 hW
                refine x_lv (lv1 := [(0, .ref (a 0)), (1, .int (nI j261)), (2, .int p1), (3, .int (nI j133)), (4, .int v12), (5, .int 0), (6, .int 1), (7, .int 0)]) [4, 5, 6, 7, 3, 2, 1, 0] rfl ?_
                exact loop114 _ 0 trivial (Nat.lt_succ_self _) (by omega)
              · skip
                refine x_iload C dX11_plan_104 0 rfl rfl ?_
                refine x_if_ne C (tgt := 111) dX11_plan_106 (by decide) rfl (fun _ => ?_) (fun h => absurd h (by decide))
                refine x_iconst C (v := 0) dX11_plan_111 (by decide) rfl ?_
                refine x_istore C (lv' := [(7, .int 0), (6, .int 1), (5, .int 0), (4, .int v12), (0, .ref (a 0)), (1, .int (nI j261)), (2, .int p1), (3, .int (nI j133))]) dX11_plan_112 (by decide) rfl rfl ?_
                have loop114 : ∀ (fu114 : Nat) (i : Nat), True → 8 - i < fu114 → i ≤ 8 → X E p l e (xRm 8 0 0) s m ([.ref (a 0), .int (nI j261), .int p1, .int (nI j133)] : List Value).toArray below meth c A 8 0 0 (MQ below (va_Qi (fun r w => WX (okX E a) w) (xB E A) A) ([.ref (a 0), .int (nI j261), .int p1, .int (nI j133)] : List Value).toArray s 0 0 A) ws 114 [(0, .ref (a 0)), (1, .int (nI j261)), (2, .int p1), (3, .int (nI j133)), (4, .int v12), (5, .int 0), (6, .int 1), (7, .int (nI i))] [] := by
                  intro fu114
                  induction fu114 with
                  | zero => intro i _ q; omega
                  | succ fu114 ih114 =>
                    intro i _ me114 iv114_0
                    refine x_iload C dX11_plan_114 7 rfl rfl ?_
                    refine x_bipush C (v := 8) dX11_plan_116 (by decide) rfl ?_
                    refine x_icmp_ge C (tgt := 154) dX11_plan_118 (by decide) rfl (fun c355 => ?_) (fun c355 => ?_)
                    · skip
                      have nf356 := nI_le' (a := 8) (b := i) c355 (by omega) (by omega)
                      refine x_aload_n C dX11_plan_154 rfl 0 rfl rfl ?_
                      refine x_get C (ci := 10) (k := 9) 0 k1 rfl in_X11 (by decide) w_394 rfl dX11_plan_155 rfl ?_
                      refine x_aload_n C dX11_plan_158 rfl 0 rfl rfl ?_
                      refine x_get C (ci := 10) (k := 2) 0 k1 rfl in_X11 (by decide) w_387 rfl dX11_plan_159 rfl ?_
                      refine x_aload_n C dX11_plan_162 rfl 0 rfl rfl ?_
                      refine x_get C (ci := 10) (k := 6) 0 k1 rfl in_X11 (by decide) w_391 rfl dX11_plan_163 rfl ?_
                      refine x_iload_n C dX11_plan_166 rfl 1 rfl rfl ?_
                      refine x_iload_n C dX11_plan_167 rfl 2 rfl rfl ?_
                      obtain ⟨_, k357, n358, n360, v362, bn359, bn361, rfl⟩ := hW 92 _ rfl
                      refine x_vv C (As := [.ref (a 5), .ref (a 71), .int (nI j261), .int p1]) (rest := []) (c_planFind E l a ws hW 5 (Or.inl rfl) ((nI j261)) p1) mf_X6_find w_910 92 k357 rfl rfl rfl (Nat.le_of_ble_eq_true rfl) ⟨(Nat.le_of_ble_eq_true rfl), (Nat.le_of_ble_eq_true rfl)⟩ ⟨(Nat.le_of_ble_eq_true rfl), (Nat.le_of_ble_eq_true rfl)⟩ dX11_plan_168 rfl (fun w365 h363 => ?_)
                      obtain ⟨hW366, kq367⟩ := h363
                      have k368 : w365[0]? = some (ob (a 0) 10 [.ref (a 1), .ref (a 3), .ref (a 5), .ref (a 27), .ref (a 49), .int v2, .ref (a 71), .ref (a 79), .ref (a 87), .ref (a 92), .ref (a 103), .ref (a 105), .ref (a 106), .ref (a 107), .ref (a 108), .ref (a 109), .ref (a 110), .ref (a 111), .ref (a 112)]) := keeps_at kq367 k1 (by first | decide | omega | (dsimp only; omega))
                      have k369 : w365[5]? = some (ob (a 5) 8 [.int (nI n4), .int v6, .ref (a 6), .ref (a 9), .ref (a 14), .ref (a 21), .int v7, .int v8, .int v9, .int v10]) := keeps_at kq367 k3 (by first | decide | omega | (dsimp only; omega))
                      have k370 : w365[21]? = some (ob (a 21) 9 [.int v12, .ref (a 22), .ref (a 23), .ref (a 24), .ref (a 25), .ref (a 26)]) := keeps_at kq367 k11 (by first | decide | omega | (dsimp only; omega))
                      have k371 : w365[9]? = some (ob (a 9) 4 [.int v253, .ref (a 10), .ref (a 11), .ref (a 12), .ref (a 13)]) := keeps_at kq367 k252 (by first | decide | omega | (dsimp only; omega))
                      refine x_iload_n C dX11_plan_171 rfl 3 rfl rfl ?_
                      refine x_if_ne C (tgt := 183) dX11_plan_172 (by decide) rfl (fun c372 => ?_) (fun c372 => ?_)
                      · skip
                        have nf373 : ¬ j133 = 0 := fun q => c372 (congrArg nI q)
                        refine x_iload_n C dX11_plan_183 rfl 3 rfl rfl ?_
                        refine x_iconst C (v := 1) dX11_plan_184 (by decide) rfl ?_
                        refine x_icmp_ne C (tgt := 198) dX11_plan_185 (by decide) rfl (fun c374 => ?_) (fun c374 => ?_)
                        · skip
                          have nf375 : ¬ j133 = 1 := fun q => c374 (congrArg nI q)
                          refine x_aload_n C dX11_plan_198 rfl 0 rfl rfl ?_
                          refine x_get C (ci := 10) (k := 9) 0 k368 rfl in_X11 (by decide) w_394 rfl dX11_plan_199 rfl ?_
                          refine x_iload_n C dX11_plan_202 rfl 3 rfl rfl ?_
                          refine x_bipush C (v := 10) dX11_plan_203 (by decide) rfl ?_
                          refine x_isub C (v := ((nI j133) - (10 : Int32))) dX11_plan_205 rfl rfl ?_
                          refine x_any (fun v376 => ?_)
                          obtain ⟨_, k377, n378, n380, v382, bn379, bn381, rfl⟩ := hW366 92 _ rfl
                          refine x_vi C (As := [.int v376]) (rest := []) (c_rowOf E l a w365 hW366 v376) mf_X6_rowOf w_950 92 k377 rfl rfl rfl (Nat.le_of_ble_eq_true rfl) ⟨(Nat.le_of_ble_eq_true rfl), (Nat.le_of_ble_eq_true rfl)⟩ ⟨(Nat.le_of_ble_eq_true rfl), (Nat.le_of_ble_eq_true rfl)⟩ dX11_plan_206 rfl (fun r384 w385 h383 => ?_)
                          have hW386 := h383
                          refine x_ws hW386 ?_
                          exact x_zret C hr hlk rfl dX11_plan_209 hW366
                        · skip
                          have nf387 : j133 = 1 := (nI_eq (by omega) (by omega)).mp c374
                          refine x_aload_n C dX11_plan_188 rfl 0 rfl rfl ?_
                          refine x_get C (ci := 10) (k := 9) 0 k368 rfl in_X11 (by decide) w_394 rfl dX11_plan_189 rfl ?_
                          obtain ⟨_, k388, n389, n391, v393, bn390, bn392, rfl⟩ := hW366 92 _ rfl
                          refine x_vi C (As := []) (rest := []) (c_bestEggs E l a w365 hW366) mf_X6_bestEggs w_945 92 k388 rfl rfl rfl (Nat.le_of_ble_eq_true rfl) ⟨(Nat.le_of_ble_eq_true rfl), (Nat.le_of_ble_eq_true rfl)⟩ ⟨(Nat.le_of_ble_eq_true rfl), (Nat.le_of_ble_eq_true rfl)⟩ dX11_plan_192 rfl (fun r395 w396 h394 => ?_)
                          have hW397 := h394
                          refine x_ws hW397 ?_
                          refine x_goto C (tgt := 209) dX11_plan_195 (by decide) ?_
                          exact x_zret C hr hlk rfl dX11_plan_209 hW366
                      · skip
                        have nf398 : j133 = 0 := (nI_eq (by omega) (by omega)).mp c372
                        refine x_aload_n C dX11_plan_175 rfl 0 rfl rfl ?_
                        refine x_get C (ci := 10) (k := 9) 0 k368 rfl in_X11 (by decide) w_394 rfl dX11_plan_176 rfl ?_
                        obtain ⟨_, k399, n400, n402, v404, bn401, bn403, rfl⟩ := hW366 92 _ rfl
                        refine x_vi C (As := []) (rest := []) (c_bestWorth E l a w365 hW366) mf_X6_bestWorth w_941 92 k399 rfl rfl rfl (Nat.le_of_ble_eq_true rfl) ⟨(Nat.le_of_ble_eq_true rfl), (Nat.le_of_ble_eq_true rfl)⟩ ⟨(Nat.le_of_ble_eq_true rfl), (Nat.le_of_ble_eq_true rfl)⟩ dX11_plan_179 rfl (fun r406 w407 h405 => ?_)
                        have hW408 := h405
                        refine x_ws hW408 ?_
                        exact x_zret C hr hlk rfl dX11_plan_182 hW366
                    · skip
                      have nf409 := nI_nle' (a := 8) (b := i) c355 (by omega) (by omega)
                      refine x_iload_n C dX11_plan_121 rfl 2 rfl rfl ?_
                      refine x_iload C dX11_plan_122 7 rfl rfl ?_
                      refine x_si C (As := [.int p1, .int (nI i)]) (rest := []) (c_isIn E l a ws hW p1 ((nI i))) mf_X11_isIn w_909 rfl rfl (Nat.le_of_ble_eq_true rfl) ⟨(Nat.le_of_ble_eq_true rfl), (Nat.le_of_ble_eq_true rfl)⟩ ⟨(Nat.le_of_ble_eq_true rfl), (Nat.le_of_ble_eq_true rfl)⟩ dX11_plan_124 rfl (fun r411 w412 h410 => ?_)
                      obtain ⟨hW413, zb414, x415⟩ := h410
                      refine x_ws hW413 ?_
                      refine x_if_eq C (tgt := 148) dX11_plan_127 (by decide) rfl (fun c416 => ?_) (fun c416 => ?_)
                      · skip
                        refine x_iinc C (v := (nI (i + 1))) (lv' := [(7, .int (nI (i + 1))), (0, .ref (a 0)), (1, .int (nI j261)), (2, .int p1), (3, .int (nI j133)), (4, .int v12), (5, .int 0), (6, .int 1)]) dX11_plan_148 7 rfl (nI_add i 1) (by decide) rfl rfl ?_
                        refine x_goto C (tgt := 114) dX11_plan_151 (by decide) ?_
                        refine x_lv (lv1 := [(0, .ref (a 0)), (1, .int (nI j261)), (2, .int p1), (3, .int (nI j133)), (4, .int v12), (5, .int 0), (6, .int 1), (7, .int (nI (i + 1)))]) [1, 2, 3, 4, 5, 6, 7, 0] rfl ?_
                        exact ih114 (i + 1) trivial (by omega) (by omega)
                      · skip
                        have wi417 := wth_le (a := 0) (b := 7) (j := i) (x415 c416) (by omega) (by decide) (by decide)
                        refine x_aload_n C dX11_plan_130 rfl 0 rfl rfl ?_
                        refine x_get C (ci := 10) (k := 2) 0 k1 rfl in_X11 (by decide) w_387 rfl dX11_plan_131 rfl ?_
                        refine x_get C (ci := 8) (k := 5) 5 k3 rfl in_X9 (by decide) w_213 rfl dX11_plan_134 rfl ?_
                        refine x_iload C dX11_plan_137 7 rfl rfl ?_
                        refine x_vi C (As := [.int (nI i)]) (rest := []) (c_Works_isDone E l a ws hW 5 (Or.inl rfl) ((nI i))) mf_X10_isDone w_894 21 k11 rfl rfl rfl (Nat.le_of_ble_eq_true rfl) ⟨(Nat.le_of_ble_eq_true rfl), (Nat.le_of_ble_eq_true rfl)⟩ ⟨(Nat.le_of_ble_eq_true rfl), (Nat.le_of_ble_eq_true rfl)⟩ dX11_plan_139 rfl (fun r419 w420 h418 => ?_)
                        obtain ⟨hW421, zb422, x423⟩ := h418
                        refine x_ws hW421 ?_
                        refine x_if_eq C (tgt := 148) dX11_plan_142 (by decide) rfl (fun c424 => ?_) (fun c424 => ?_)
                        · skip
                          refine x_iinc C (v := (nI (i + 1))) (lv' := [(7, .int (nI (i + 1))), (0, .ref (a 0)), (1, .int (nI j261)), (2, .int p1), (3, .int (nI j133)), (4, .int v12), (5, .int 0), (6, .int 1)]) dX11_plan_148 7 rfl (nI_add i 1) (by decide) rfl rfl ?_
                          refine x_goto C (tgt := 114) dX11_plan_151 (by decide) ?_
                          refine x_lv (lv1 := [(0, .ref (a 0)), (1, .int (nI j261)), (2, .int p1), (3, .int (nI j133)), (4, .int v12), (5, .int 0), (6, .int 1), (7, .int (nI (i + 1)))]) [1, 2, 3, 4, 5, 6, 7, 0] rfl ?_
                          exact ih114 (i + 1) trivial (by omega) (by omega)
                        · skip
                          have wi425 := wth_le (a := 0) (b := 7) (j := i) (x423 c424) (by omega) (by decide) (by decide)
                          refine x_bipush C (v := (-2)) dX11_plan_145 (by decide) rfl ?_
                          exact x_zret C hr hlk rfl dX11_plan_147 hW
                refine x_lv (lv1 := [(0, .ref (a 0)), (1, .int (nI j261)), (2, .int p1), (3, .int (nI j133)), (4, .int v12), (5, .int 0), (6, .int 1), (7, .int 0)]) [4, 5, 6, 7, 3, 2, 1, 0] rfl ?_
                exact loop114 _ 0 trivial (Nat.lt_succ_self _) (by omega)
  · skip
    obtain ⟨j426, hl427, hh428, ej429⟩ := w_nat (a := 1) (b := 255) (by decide) (by decide) (x18 c19)
    subst ej429
    refine x_iload_n C dX11_plan_23 rfl 3 rfl rfl ?_
    refine x_si C (As := [.int (nI j426)]) (rest := []) (c_bitCount E l a ws hW ((nI j426))) mf_J6_bitCount_0f7a4 w_903 rfl rfl (Nat.le_of_ble_eq_true rfl) ⟨(Nat.le_of_ble_eq_true rfl), (Nat.le_of_ble_eq_true rfl)⟩ ⟨(Nat.le_of_ble_eq_true rfl), (Nat.le_of_ble_eq_true rfl)⟩ dX11_plan_24 rfl (fun r431 w432 h430 => ?_)
    obtain ⟨hW433, x434⟩ := h430
    refine x_ws hW433 ?_
    refine x_goto C (tgt := 31) dX11_plan_27 (by decide) ?_
    refine x_istore C (lv' := [(5, .int r431), (4, .int v12), (0, .ref (a 0)), (1, .int p0), (2, .int (nI j426)), (3, .int p2)]) dX11_plan_31 (by decide) rfl rfl ?_
    refine x_iload_n C dX11_plan_33 rfl 5 rfl rfl ?_
    refine x_bipush C (v := 10) dX11_plan_34 (by decide) rfl ?_
    refine x_bipush C (v := 17) dX11_plan_36 (by decide) rfl ?_
    refine x_si C (As := [.int p2, .int 10, .int 17]) (rest := []) (c_isWithin E l a ws hW p2 (10 : Int32) (17 : Int32)) mf_X11_isWithin w_462 rfl rfl (Nat.le_of_ble_eq_true rfl) ⟨(Nat.le_of_ble_eq_true rfl), (Nat.le_of_ble_eq_true rfl)⟩ ⟨(Nat.le_of_ble_eq_true rfl), (Nat.le_of_ble_eq_true rfl)⟩ dX11_plan_38 rfl (fun r436 w437 h435 => ?_)
    obtain ⟨hW438, zb439, x440⟩ := h435
    refine x_ws hW438 ?_
    refine x_if_eq C (tgt := 59) dX11_plan_41 (by decide) rfl (fun c441 => ?_) (fun c441 => ?_)
    · skip
      refine x_iconst C (v := 0) dX11_plan_59 (by decide) rfl ?_
      refine x_istore C (lv' := [(6, .int 0), (5, .int r431), (4, .int v12), (0, .ref (a 0)), (1, .int p0), (2, .int (nI j426)), (3, .int p2)]) dX11_plan_60 (by decide) rfl rfl ?_
      refine x_aload_n C dX11_plan_62 rfl 3 rfl rfl ?_
      refine x_get C (ci := 10) (k := 2) 0 k1 rfl in_X11 (by decide) w_387 rfl dX11_plan_63 rfl ?_
      refine x_get C (ci := 8) (k := 3) 5 k3 rfl in_X9 (by decide) w_204 rfl dX11_plan_66 rfl ?_
      refine x_iload_n C dX11_plan_69 rfl 4 rfl rfl ?_
      obtain ⟨_, k442, v443, rfl⟩ := hW 9 _ rfl
      refine x_vi C (As := [.int p0]) (rest := []) (c_People_isTold E l a ws hW 5 (Or.inl rfl) p0) mf_X5_isTold w_465 9 k442 rfl rfl rfl (Nat.le_of_ble_eq_true rfl) ⟨(Nat.le_of_ble_eq_true rfl), (Nat.le_of_ble_eq_true rfl)⟩ ⟨(Nat.le_of_ble_eq_true rfl), (Nat.le_of_ble_eq_true rfl)⟩ dX11_plan_70 rfl (fun r445 w446 h444 => ?_)
      obtain ⟨hW447, zb448, x449⟩ := h444
      refine x_ws hW447 ?_
      refine x_if_eq C (tgt := 109) dX11_plan_73 (by decide) rfl (fun c450 => ?_) (fun c450 => ?_)
      · skip
        refine x_iconst C (v := (-1)) dX11_plan_109 (by decide) rfl ?_
        exact x_zret C hr hlk rfl dX11_plan_110 hW
      · skip
        obtain ⟨j451, hl452, hh453, ej454⟩ := w_nat (a := 0) (b := 7) (by decide) (by decide) (x449 c450)
        subst ej454
        refine x_iload C dX11_plan_76 1 rfl rfl ?_
        refine x_iconst C (v := 1) dX11_plan_78 (by decide) rfl ?_
        refine x_iconst C (v := 4) dX11_plan_79 (by decide) rfl ?_
        refine x_si C (As := [.int r431, .int 1, .int 4]) (rest := []) (c_isWithin E l a ws hW r431 (1 : Int32) (4 : Int32)) mf_X11_isWithin w_462 rfl rfl (Nat.le_of_ble_eq_true rfl) ⟨(Nat.le_of_ble_eq_true rfl), (Nat.le_of_ble_eq_true rfl)⟩ ⟨(Nat.le_of_ble_eq_true rfl), (Nat.le_of_ble_eq_true rfl)⟩ dX11_plan_80 rfl (fun r456 w457 h455 => ?_)
        obtain ⟨hW458, zb459, x460⟩ := h455
        refine x_ws hW458 ?_
        refine x_if_eq C (tgt := 109) dX11_plan_83 (by decide) rfl (fun c461 => ?_) (fun c461 => ?_)
        · skip
          refine x_iconst C (v := (-1)) dX11_plan_109 (by decide) rfl ?_
          exact x_zret C hr hlk rfl dX11_plan_110 hW
        · skip
          obtain ⟨j462, hl463, hh464, ej465⟩ := w_nat (a := 1) (b := 4) (by decide) (by decide) (x460 c461)
          subst ej465
          refine x_iload_n C dX11_plan_86 rfl 5 rfl rfl ?_
          refine x_iload C dX11_plan_87 2 rfl rfl ?_
          refine x_iconst C (v := (-1)) dX11_plan_89 (by decide) rfl ?_
          refine x_ixor C (v := (v12 ^^^ ((-1) : Int32))) dX11_plan_90 rfl rfl ?_
          refine x_any (fun v466 => ?_)
          refine x_iand C (v := ((nI j426) &&& v466)) dX11_plan_91 rfl rfl ?_
          refine x_any (fun v467 => ?_)
          refine x_if_ne C (tgt := 109) dX11_plan_92 (by decide) rfl (fun c468 => ?_) (fun c468 => ?_)
          · skip
            refine x_iconst C (v := (-1)) dX11_plan_109 (by decide) rfl ?_
            exact x_zret C hr hlk rfl dX11_plan_110 hW
          · skip
            refine x_iload_n C dX11_plan_95 rfl 6 rfl rfl ?_
            refine x_iconst C (v := 0) dX11_plan_96 (by decide) rfl ?_
            refine x_iconst C (v := 1) dX11_plan_97 (by decide) rfl ?_
            refine x_si C (As := [.int p2, .int 0, .int 1]) (rest := []) (c_isWithin E l a ws hW p2 (0 : Int32) (1 : Int32)) mf_X11_isWithin w_462 rfl rfl (Nat.le_of_ble_eq_true rfl) ⟨(Nat.le_of_ble_eq_true rfl), (Nat.le_of_ble_eq_true rfl)⟩ ⟨(Nat.le_of_ble_eq_true rfl), (Nat.le_of_ble_eq_true rfl)⟩ dX11_plan_98 rfl (fun r470 w471 h469 => ?_)
            obtain ⟨hW472, zb473, x474⟩ := h469
            refine x_ws hW472 ?_
            refine x_if_ne C (tgt := 111) dX11_plan_101 (by decide) rfl (fun c475 => ?_) (fun c475 => ?_)
            · skip
              obtain ⟨j476, hl477, hh478, ej479⟩ := w_nat (a := 0) (b := 1) (by decide) (by decide) (x474 c475)
              subst ej479
              refine x_iconst C (v := 0) dX11_plan_111 (by decide) rfl ?_
              refine x_istore C (lv' := [(7, .int 0), (6, .int 0), (5, .int (nI j462)), (4, .int v12), (0, .ref (a 0)), (1, .int (nI j451)), (2, .int (nI j426)), (3, .int (nI j476))]) dX11_plan_112 (by decide) rfl rfl ?_
              have loop114 : ∀ (fu114 : Nat) (i : Nat), True → 8 - i < fu114 → i ≤ 8 → X E p l e (xRm 8 0 0) s m ([.ref (a 0), .int (nI j451), .int (nI j426), .int (nI j476)] : List Value).toArray below meth c A 8 0 0 (MQ below (va_Qi (fun r w => WX (okX E a) w) (xB E A) A) ([.ref (a 0), .int (nI j451), .int (nI j426), .int (nI j476)] : List Value).toArray s 0 0 A) ws 114 [(0, .ref (a 0)), (1, .int (nI j451)), (2, .int (nI j426)), (3, .int (nI j476)), (4, .int v12), (5, .int (nI j462)), (6, .int 0), (7, .int (nI i))] [] := by
                intro fu114
                induction fu114 with
                | zero => intro i _ q; omega
                | succ fu114 ih114 =>
                  intro i _ me114 iv114_0
                  refine x_iload C dX11_plan_114 7 rfl rfl ?_
                  refine x_bipush C (v := 8) dX11_plan_116 (by decide) rfl ?_
                  refine x_icmp_ge C (tgt := 154) dX11_plan_118 (by decide) rfl (fun c480 => ?_) (fun c480 => ?_)
                  · skip
                    have nf481 := nI_le' (a := 8) (b := i) c480 (by omega) (by omega)
                    refine x_aload_n C dX11_plan_154 rfl 0 rfl rfl ?_
                    refine x_get C (ci := 10) (k := 9) 0 k1 rfl in_X11 (by decide) w_394 rfl dX11_plan_155 rfl ?_
                    refine x_aload_n C dX11_plan_158 rfl 0 rfl rfl ?_
                    refine x_get C (ci := 10) (k := 2) 0 k1 rfl in_X11 (by decide) w_387 rfl dX11_plan_159 rfl ?_
                    refine x_aload_n C dX11_plan_162 rfl 0 rfl rfl ?_
                    refine x_get C (ci := 10) (k := 6) 0 k1 rfl in_X11 (by decide) w_391 rfl dX11_plan_163 rfl ?_
                    refine x_iload_n C dX11_plan_166 rfl 1 rfl rfl ?_
                    refine x_iload_n C dX11_plan_167 rfl 2 rfl rfl ?_
                    obtain ⟨_, k482, n483, n485, v487, bn484, bn486, rfl⟩ := hW 92 _ rfl
                    refine x_vv C (As := [.ref (a 5), .ref (a 71), .int (nI j451), .int (nI j426)]) (rest := []) (c_planFind E l a ws hW 5 (Or.inl rfl) ((nI j451)) ((nI j426))) mf_X6_find w_910 92 k482 rfl rfl rfl (Nat.le_of_ble_eq_true rfl) ⟨(Nat.le_of_ble_eq_true rfl), (Nat.le_of_ble_eq_true rfl)⟩ ⟨(Nat.le_of_ble_eq_true rfl), (Nat.le_of_ble_eq_true rfl)⟩ dX11_plan_168 rfl (fun w490 h488 => ?_)
                    obtain ⟨hW491, kq492⟩ := h488
                    have k493 : w490[0]? = some (ob (a 0) 10 [.ref (a 1), .ref (a 3), .ref (a 5), .ref (a 27), .ref (a 49), .int v2, .ref (a 71), .ref (a 79), .ref (a 87), .ref (a 92), .ref (a 103), .ref (a 105), .ref (a 106), .ref (a 107), .ref (a 108), .ref (a 109), .ref (a 110), .ref (a 111), .ref (a 112)]) := keeps_at kq492 k1 (by first | decide | omega | (dsimp only; omega))
                    have k494 : w490[5]? = some (ob (a 5) 8 [.int (nI n4), .int v6, .ref (a 6), .ref (a 9), .ref (a 14), .ref (a 21), .int v7, .int v8, .int v9, .int v10]) := keeps_at kq492 k3 (by first | decide | omega | (dsimp only; omega))
                    have k495 : w490[21]? = some (ob (a 21) 9 [.int v12, .ref (a 22), .ref (a 23), .ref (a 24), .ref (a 25), .ref (a 26)]) := keeps_at kq492 k11 (by first | decide | omega | (dsimp only; omega))
                    have k496 : w490[9]? = some (ob (a 9) 4 [.int v443, .ref (a 10), .ref (a 11), .ref (a 12), .ref (a 13)]) := keeps_at kq492 k442 (by first | decide | omega | (dsimp only; omega))
                    refine x_iload_n C dX11_plan_171 rfl 3 rfl rfl ?_
                    refine x_if_ne C (tgt := 183) dX11_plan_172 (by decide) rfl (fun c497 => ?_) (fun c497 => ?_)
                    · skip
                      have nf498 : ¬ j476 = 0 := fun q => c497 (congrArg nI q)
                      refine x_iload_n C dX11_plan_183 rfl 3 rfl rfl ?_
                      refine x_iconst C (v := 1) dX11_plan_184 (by decide) rfl ?_
                      refine x_icmp_ne C (tgt := 198) dX11_plan_185 (by decide) rfl (fun c499 => ?_) (fun c499 => ?_)
                      · skip
                        have nf500 : ¬ j476 = 1 := fun q => c499 (congrArg nI q)
                        refine x_aload_n C dX11_plan_198 rfl 0 rfl rfl ?_
                        refine x_get C (ci := 10) (k := 9) 0 k493 rfl in_X11 (by decide) w_394 rfl dX11_plan_199 rfl ?_
                        refine x_iload_n C dX11_plan_202 rfl 3 rfl rfl ?_
                        refine x_bipush C (v := 10) dX11_plan_203 (by decide) rfl ?_
                        refine x_isub C (v := ((nI j476) - (10 : Int32))) dX11_plan_205 rfl rfl ?_
                        refine x_any (fun v501 => ?_)
                        obtain ⟨_, k502, n503, n505, v507, bn504, bn506, rfl⟩ := hW491 92 _ rfl
                        refine x_vi C (As := [.int v501]) (rest := []) (c_rowOf E l a w490 hW491 v501) mf_X6_rowOf w_950 92 k502 rfl rfl rfl (Nat.le_of_ble_eq_true rfl) ⟨(Nat.le_of_ble_eq_true rfl), (Nat.le_of_ble_eq_true rfl)⟩ ⟨(Nat.le_of_ble_eq_true rfl), (Nat.le_of_ble_eq_true rfl)⟩ dX11_plan_206 rfl (fun r509 w510 h508 => ?_)
                        have hW511 := h508
                        refine x_ws hW511 ?_
                        exact x_zret C hr hlk rfl dX11_plan_209 hW491
                      · skip
                        have nf512 : j476 = 1 := (nI_eq (by omega) (by omega)).mp c499
                        refine x_aload_n C dX11_plan_188 rfl 0 rfl rfl ?_
                        refine x_get C (ci := 10) (k := 9) 0 k493 rfl in_X11 (by decide) w_394 rfl dX11_plan_189 rfl ?_
                        obtain ⟨_, k513, n514, n516, v518, bn515, bn517, rfl⟩ := hW491 92 _ rfl
                        refine x_vi C (As := []) (rest := []) (c_bestEggs E l a w490 hW491) mf_X6_bestEggs w_945 92 k513 rfl rfl rfl (Nat.le_of_ble_eq_true rfl) ⟨(Nat.le_of_ble_eq_true rfl), (Nat.le_of_ble_eq_true rfl)⟩ ⟨(Nat.le_of_ble_eq_true rfl), (Nat.le_of_ble_eq_true rfl)⟩ dX11_plan_192 rfl (fun r520 w521 h519 => ?_)
                        have hW522 := h519
                        refine x_ws hW522 ?_
                        refine x_goto C (tgt := 209) dX11_plan_195 (by decide) ?_
                        exact x_zret C hr hlk rfl dX11_plan_209 hW491
                    · skip
                      have nf523 : j476 = 0 := (nI_eq (by omega) (by omega)).mp c497
                      refine x_aload_n C dX11_plan_175 rfl 0 rfl rfl ?_
                      refine x_get C (ci := 10) (k := 9) 0 k493 rfl in_X11 (by decide) w_394 rfl dX11_plan_176 rfl ?_
                      obtain ⟨_, k524, n525, n527, v529, bn526, bn528, rfl⟩ := hW491 92 _ rfl
                      refine x_vi C (As := []) (rest := []) (c_bestWorth E l a w490 hW491) mf_X6_bestWorth w_941 92 k524 rfl rfl rfl (Nat.le_of_ble_eq_true rfl) ⟨(Nat.le_of_ble_eq_true rfl), (Nat.le_of_ble_eq_true rfl)⟩ ⟨(Nat.le_of_ble_eq_true rfl), (Nat.le_of_ble_eq_true rfl)⟩ dX11_plan_179 rfl (fun r531 w532 h530 => ?_)
                      have hW533 := h530
                      refine x_ws hW533 ?_
                      exact x_zret C hr hlk rfl dX11_plan_182 hW491
                  · skip
                    have nf534 := nI_nle' (a := 8) (b := i) c480 (by omega) (by omega)
                    refine x_iload_n C dX11_plan_121 rfl 2 rfl rfl ?_
                    refine x_iload C dX11_plan_122 7 rfl rfl ?_
                    refine x_si C (As := [.int (nI j426), .int (nI i)]) (rest := []) (c_isIn E l a ws hW ((nI j426)) ((nI i))) mf_X11_isIn w_909 rfl rfl (Nat.le_of_ble_eq_true rfl) ⟨(Nat.le_of_ble_eq_true rfl), (Nat.le_of_ble_eq_true rfl)⟩ ⟨(Nat.le_of_ble_eq_true rfl), (Nat.le_of_ble_eq_true rfl)⟩ dX11_plan_124 rfl (fun r536 w537 h535 => ?_)
                    obtain ⟨hW538, zb539, x540⟩ := h535
                    refine x_ws hW538 ?_
                    refine x_if_eq C (tgt := 148) dX11_plan_127 (by decide) rfl (fun c541 => ?_) (fun c541 => ?_)
                    · skip
                      refine x_iinc C (v := (nI (i + 1))) (lv' := [(7, .int (nI (i + 1))), (0, .ref (a 0)), (1, .int (nI j451)), (2, .int (nI j426)), (3, .int (nI j476)), (4, .int v12), (5, .int (nI j462)), (6, .int 0)]) dX11_plan_148 7 rfl (nI_add i 1) (by decide) rfl rfl ?_
                      refine x_goto C (tgt := 114) dX11_plan_151 (by decide) ?_
                      refine x_lv (lv1 := [(0, .ref (a 0)), (1, .int (nI j451)), (2, .int (nI j426)), (3, .int (nI j476)), (4, .int v12), (5, .int (nI j462)), (6, .int 0), (7, .int (nI (i + 1)))]) [1, 2, 3, 4, 5, 6, 7, 0] rfl ?_
                      exact ih114 (i + 1) trivial (by omega) (by omega)
                    · skip
                      have wi542 := wth_le (a := 0) (b := 7) (j := i) (x540 c541) (by omega) (by decide) (by decide)
                      refine x_aload_n C dX11_plan_130 rfl 0 rfl rfl ?_
                      refine x_get C (ci := 10) (k := 2) 0 k1 rfl in_X11 (by decide) w_387 rfl dX11_plan_131 rfl ?_
                      refine x_get C (ci := 8) (k := 5) 5 k3 rfl in_X9 (by decide) w_213 rfl dX11_plan_134 rfl ?_
                      refine x_iload C dX11_plan_137 7 rfl rfl ?_
                      refine x_vi C (As := [.int (nI i)]) (rest := []) (c_Works_isDone E l a ws hW 5 (Or.inl rfl) ((nI i))) mf_X10_isDone w_894 21 k11 rfl rfl rfl (Nat.le_of_ble_eq_true rfl) ⟨(Nat.le_of_ble_eq_true rfl), (Nat.le_of_ble_eq_true rfl)⟩ ⟨(Nat.le_of_ble_eq_true rfl), (Nat.le_of_ble_eq_true rfl)⟩ dX11_plan_139 rfl (fun r544 w545 h543 => ?_)
                      obtain ⟨hW546, zb547, x548⟩ := h543
                      refine x_ws hW546 ?_
                      refine x_if_eq C (tgt := 148) dX11_plan_142 (by decide) rfl (fun c549 => ?_) (fun c549 => ?_)
                      · skip
                        refine x_iinc C (v := (nI (i + 1))) (lv' := [(7, .int (nI (i + 1))), (0, .ref (a 0)), (1, .int (nI j451)), (2, .int (nI j426)), (3, .int (nI j476)), (4, .int v12), (5, .int (nI j462)), (6, .int 0)]) dX11_plan_148 7 rfl (nI_add i 1) (by decide) rfl rfl ?_
                        refine x_goto C (tgt := 114) dX11_plan_151 (by decide) ?_
                        refine x_lv (lv1 := [(0, .ref (a 0)), (1, .int (nI j451)), (2, .int (nI j426)), (3, .int (nI j476)), (4, .int v12), (5, .int (nI j462)), (6, .int 0), (7, .int (nI (i + 1)))]) [1, 2, 3, 4, 5, 6, 7, 0] rfl ?_
                        exact ih114 (i + 1) trivial (by omega) (by omega)
                      · skip
                        have wi550 := wth_le (a := 0) (b := 7) (j := i) (x548 c549) (by omega) (by decide) (by decide)
                        refine x_bipush C (v := (-2)) dX11_plan_145 (by decide) rfl ?_
                        exact x_zret C hr hlk rfl dX11_plan_147 hW
              refine x_lv (lv1 := [(0, .ref (a 0)), (1, .int (nI j451)), (2, .int (nI j426)), (3, .int (nI j476)), (4, .int v12), (5, .int (nI j462)), (6, .int 0), (7, .int 0)]) [4, 5, 6, 7, 3, 2, 1, 0] rfl ?_
              exact loop114 _ 0 trivial (Nat.lt_succ_self _) (by omega)
            · skip
              refine x_iload C dX11_plan_104 0 rfl rfl ?_
              refine x_if_ne C (tgt := 111) dX11_plan_106 (by decide) rfl (fun h => absurd h (by decide)) (fun _ => ?_)
              refine x_iconst C (v := (-1)) dX11_plan_109 (by decide) rfl ?_
              exact x_zret C hr hlk rfl dX11_plan_110 hW
    · skip
      obtain ⟨j551, hl552, hh553, ej554⟩ := w_nat (a := 10) (b := 17) (by decide) (by decide) (x440 c441)
      subst ej554
      refine x_iload_n C dX11_plan_44 rfl 4 rfl rfl ?_
      refine x_iload_n C dX11_plan_45 rfl 5 rfl rfl ?_
      refine x_bipush C (v := 10) dX11_plan_46 (by decide) rfl ?_
      refine x_isub C (v := ((nI j551) - (10 : Int32))) dX11_plan_48 rfl rfl ?_
      refine x_any (fun v555 => ?_)
      refine x_si C (As := [.int (nI j426), .int v555]) (rest := []) (c_isIn E l a ws hW ((nI j426)) v555) mf_X11_isIn w_909 rfl rfl (Nat.le_of_ble_eq_true rfl) ⟨(Nat.le_of_ble_eq_true rfl), (Nat.le_of_ble_eq_true rfl)⟩ ⟨(Nat.le_of_ble_eq_true rfl), (Nat.le_of_ble_eq_true rfl)⟩ dX11_plan_49 rfl (fun r557 w558 h556 => ?_)
      obtain ⟨hW559, zb560, x561⟩ := h556
      refine x_ws hW559 ?_
      refine x_if_eq C (tgt := 59) dX11_plan_52 (by decide) rfl (fun c562 => ?_) (fun c562 => ?_)
      · skip
        refine x_iconst C (v := 0) dX11_plan_59 (by decide) rfl ?_
        refine x_istore C (lv' := [(6, .int 0), (5, .int r431), (4, .int v12), (0, .ref (a 0)), (1, .int p0), (2, .int (nI j426)), (3, .int (nI j551))]) dX11_plan_60 (by decide) rfl rfl ?_
        refine x_aload_n C dX11_plan_62 rfl 3 rfl rfl ?_
        refine x_get C (ci := 10) (k := 2) 0 k1 rfl in_X11 (by decide) w_387 rfl dX11_plan_63 rfl ?_
        refine x_get C (ci := 8) (k := 3) 5 k3 rfl in_X9 (by decide) w_204 rfl dX11_plan_66 rfl ?_
        refine x_iload_n C dX11_plan_69 rfl 4 rfl rfl ?_
        obtain ⟨_, k563, v564, rfl⟩ := hW 9 _ rfl
        refine x_vi C (As := [.int p0]) (rest := []) (c_People_isTold E l a ws hW 5 (Or.inl rfl) p0) mf_X5_isTold w_465 9 k563 rfl rfl rfl (Nat.le_of_ble_eq_true rfl) ⟨(Nat.le_of_ble_eq_true rfl), (Nat.le_of_ble_eq_true rfl)⟩ ⟨(Nat.le_of_ble_eq_true rfl), (Nat.le_of_ble_eq_true rfl)⟩ dX11_plan_70 rfl (fun r566 w567 h565 => ?_)
        obtain ⟨hW568, zb569, x570⟩ := h565
        refine x_ws hW568 ?_
        refine x_if_eq C (tgt := 109) dX11_plan_73 (by decide) rfl (fun c571 => ?_) (fun c571 => ?_)
        · skip
          refine x_iconst C (v := (-1)) dX11_plan_109 (by decide) rfl ?_
          exact x_zret C hr hlk rfl dX11_plan_110 hW
        · skip
          obtain ⟨j572, hl573, hh574, ej575⟩ := w_nat (a := 0) (b := 7) (by decide) (by decide) (x570 c571)
          subst ej575
          refine x_iload C dX11_plan_76 1 rfl rfl ?_
          refine x_iconst C (v := 1) dX11_plan_78 (by decide) rfl ?_
          refine x_iconst C (v := 4) dX11_plan_79 (by decide) rfl ?_
          refine x_si C (As := [.int r431, .int 1, .int 4]) (rest := []) (c_isWithin E l a ws hW r431 (1 : Int32) (4 : Int32)) mf_X11_isWithin w_462 rfl rfl (Nat.le_of_ble_eq_true rfl) ⟨(Nat.le_of_ble_eq_true rfl), (Nat.le_of_ble_eq_true rfl)⟩ ⟨(Nat.le_of_ble_eq_true rfl), (Nat.le_of_ble_eq_true rfl)⟩ dX11_plan_80 rfl (fun r577 w578 h576 => ?_)
          obtain ⟨hW579, zb580, x581⟩ := h576
          refine x_ws hW579 ?_
          refine x_if_eq C (tgt := 109) dX11_plan_83 (by decide) rfl (fun c582 => ?_) (fun c582 => ?_)
          · skip
            refine x_iconst C (v := (-1)) dX11_plan_109 (by decide) rfl ?_
            exact x_zret C hr hlk rfl dX11_plan_110 hW
          · skip
            obtain ⟨j583, hl584, hh585, ej586⟩ := w_nat (a := 1) (b := 4) (by decide) (by decide) (x581 c582)
            subst ej586
            refine x_iload_n C dX11_plan_86 rfl 5 rfl rfl ?_
            refine x_iload C dX11_plan_87 2 rfl rfl ?_
            refine x_iconst C (v := (-1)) dX11_plan_89 (by decide) rfl ?_
            refine x_ixor C (v := (v12 ^^^ ((-1) : Int32))) dX11_plan_90 rfl rfl ?_
            refine x_any (fun v587 => ?_)
            refine x_iand C (v := ((nI j426) &&& v587)) dX11_plan_91 rfl rfl ?_
            refine x_any (fun v588 => ?_)
            refine x_if_ne C (tgt := 109) dX11_plan_92 (by decide) rfl (fun c589 => ?_) (fun c589 => ?_)
            · skip
              refine x_iconst C (v := (-1)) dX11_plan_109 (by decide) rfl ?_
              exact x_zret C hr hlk rfl dX11_plan_110 hW
            · skip
              refine x_iload_n C dX11_plan_95 rfl 6 rfl rfl ?_
              refine x_iconst C (v := 0) dX11_plan_96 (by decide) rfl ?_
              refine x_iconst C (v := 1) dX11_plan_97 (by decide) rfl ?_
              refine x_si C (As := [.int (nI j551), .int 0, .int 1]) (rest := []) (c_isWithin E l a ws hW ((nI j551)) (0 : Int32) (1 : Int32)) mf_X11_isWithin w_462 rfl rfl (Nat.le_of_ble_eq_true rfl) ⟨(Nat.le_of_ble_eq_true rfl), (Nat.le_of_ble_eq_true rfl)⟩ ⟨(Nat.le_of_ble_eq_true rfl), (Nat.le_of_ble_eq_true rfl)⟩ dX11_plan_98 rfl (fun r591 w592 h590 => ?_)
              obtain ⟨hW593, zb594, x595⟩ := h590
              refine x_ws hW593 ?_
              refine x_if_ne C (tgt := 111) dX11_plan_101 (by decide) rfl (fun c596 => ?_) (fun c596 => ?_)
              · skip
                have wi597 := x595 c596
                refine x_iconst C (v := 0) dX11_plan_111 (by decide) rfl ?_
                refine x_istore C (lv' := [(7, .int 0), (6, .int 0), (5, .int (nI j583)), (4, .int v12), (0, .ref (a 0)), (1, .int (nI j572)), (2, .int (nI j426)), (3, .int (nI j551))]) dX11_plan_112 (by decide) rfl rfl ?_
                have loop114 : ∀ (fu114 : Nat) (i : Nat), True → 8 - i < fu114 → i ≤ 8 → X E p l e (xRm 8 0 0) s m ([.ref (a 0), .int (nI j572), .int (nI j426), .int (nI j551)] : List Value).toArray below meth c A 8 0 0 (MQ below (va_Qi (fun r w => WX (okX E a) w) (xB E A) A) ([.ref (a 0), .int (nI j572), .int (nI j426), .int (nI j551)] : List Value).toArray s 0 0 A) ws 114 [(0, .ref (a 0)), (1, .int (nI j572)), (2, .int (nI j426)), (3, .int (nI j551)), (4, .int v12), (5, .int (nI j583)), (6, .int 0), (7, .int (nI i))] [] := by
                  intro fu114
                  induction fu114 with
                  | zero => intro i _ q; omega
                  | succ fu114 ih114 =>
                    intro i _ me114 iv114_0
                    refine x_iload C dX11_plan_114 7 rfl rfl ?_
                    refine x_bipush C (v := 8) dX11_plan_116 (by decide) rfl ?_
                    refine x_icmp_ge C (tgt := 154) dX11_plan_118 (by decide) rfl (fun c598 => ?_) (fun c598 => ?_)
                    · skip
                      have nf599 := nI_le' (a := 8) (b := i) c598 (by omega) (by omega)
                      refine x_aload_n C dX11_plan_154 rfl 0 rfl rfl ?_
                      refine x_get C (ci := 10) (k := 9) 0 k1 rfl in_X11 (by decide) w_394 rfl dX11_plan_155 rfl ?_
                      refine x_aload_n C dX11_plan_158 rfl 0 rfl rfl ?_
                      refine x_get C (ci := 10) (k := 2) 0 k1 rfl in_X11 (by decide) w_387 rfl dX11_plan_159 rfl ?_
                      refine x_aload_n C dX11_plan_162 rfl 0 rfl rfl ?_
                      refine x_get C (ci := 10) (k := 6) 0 k1 rfl in_X11 (by decide) w_391 rfl dX11_plan_163 rfl ?_
                      refine x_iload_n C dX11_plan_166 rfl 1 rfl rfl ?_
                      refine x_iload_n C dX11_plan_167 rfl 2 rfl rfl ?_
                      obtain ⟨_, k600, n601, n603, v605, bn602, bn604, rfl⟩ := hW 92 _ rfl
                      refine x_vv C (As := [.ref (a 5), .ref (a 71), .int (nI j572), .int (nI j426)]) (rest := []) (c_planFind E l a ws hW 5 (Or.inl rfl) ((nI j572)) ((nI j426))) mf_X6_find w_910 92 k600 rfl rfl rfl (Nat.le_of_ble_eq_true rfl) ⟨(Nat.le_of_ble_eq_true rfl), (Nat.le_of_ble_eq_true rfl)⟩ ⟨(Nat.le_of_ble_eq_true rfl), (Nat.le_of_ble_eq_true rfl)⟩ dX11_plan_168 rfl (fun w608 h606 => ?_)
                      obtain ⟨hW609, kq610⟩ := h606
                      have k611 : w608[0]? = some (ob (a 0) 10 [.ref (a 1), .ref (a 3), .ref (a 5), .ref (a 27), .ref (a 49), .int v2, .ref (a 71), .ref (a 79), .ref (a 87), .ref (a 92), .ref (a 103), .ref (a 105), .ref (a 106), .ref (a 107), .ref (a 108), .ref (a 109), .ref (a 110), .ref (a 111), .ref (a 112)]) := keeps_at kq610 k1 (by first | decide | omega | (dsimp only; omega))
                      have k612 : w608[5]? = some (ob (a 5) 8 [.int (nI n4), .int v6, .ref (a 6), .ref (a 9), .ref (a 14), .ref (a 21), .int v7, .int v8, .int v9, .int v10]) := keeps_at kq610 k3 (by first | decide | omega | (dsimp only; omega))
                      have k613 : w608[21]? = some (ob (a 21) 9 [.int v12, .ref (a 22), .ref (a 23), .ref (a 24), .ref (a 25), .ref (a 26)]) := keeps_at kq610 k11 (by first | decide | omega | (dsimp only; omega))
                      have k614 : w608[9]? = some (ob (a 9) 4 [.int v564, .ref (a 10), .ref (a 11), .ref (a 12), .ref (a 13)]) := keeps_at kq610 k563 (by first | decide | omega | (dsimp only; omega))
                      refine x_iload_n C dX11_plan_171 rfl 3 rfl rfl ?_
                      refine x_if_ne C (tgt := 183) dX11_plan_172 (by decide) rfl (fun c615 => ?_) (fun c615 => ?_)
                      · skip
                        have nf616 : ¬ j551 = 0 := fun q => c615 (congrArg nI q)
                        refine x_iload_n C dX11_plan_183 rfl 3 rfl rfl ?_
                        refine x_iconst C (v := 1) dX11_plan_184 (by decide) rfl ?_
                        refine x_icmp_ne C (tgt := 198) dX11_plan_185 (by decide) rfl (fun c617 => ?_) (fun c617 => ?_)
                        · skip
                          have nf618 : ¬ j551 = 1 := fun q => c617 (congrArg nI q)
                          refine x_aload_n C dX11_plan_198 rfl 0 rfl rfl ?_
                          refine x_get C (ci := 10) (k := 9) 0 k611 rfl in_X11 (by decide) w_394 rfl dX11_plan_199 rfl ?_
                          refine x_iload_n C dX11_plan_202 rfl 3 rfl rfl ?_
                          refine x_bipush C (v := 10) dX11_plan_203 (by decide) rfl ?_
                          refine x_isub C (v := ((nI j551) - (10 : Int32))) dX11_plan_205 rfl rfl ?_
                          refine x_any (fun v619 => ?_)
                          obtain ⟨_, k620, n621, n623, v625, bn622, bn624, rfl⟩ := hW609 92 _ rfl
                          refine x_vi C (As := [.int v619]) (rest := []) (c_rowOf E l a w608 hW609 v619) mf_X6_rowOf w_950 92 k620 rfl rfl rfl (Nat.le_of_ble_eq_true rfl) ⟨(Nat.le_of_ble_eq_true rfl), (Nat.le_of_ble_eq_true rfl)⟩ ⟨(Nat.le_of_ble_eq_true rfl), (Nat.le_of_ble_eq_true rfl)⟩ dX11_plan_206 rfl (fun r627 w628 h626 => ?_)
                          have hW629 := h626
                          refine x_ws hW629 ?_
                          exact x_zret C hr hlk rfl dX11_plan_209 hW609
                        · skip
                          have nf630 : j551 = 1 := (nI_eq (by omega) (by omega)).mp c617
                          refine x_aload_n C dX11_plan_188 rfl 0 rfl rfl ?_
                          refine x_get C (ci := 10) (k := 9) 0 k611 rfl in_X11 (by decide) w_394 rfl dX11_plan_189 rfl ?_
                          obtain ⟨_, k631, n632, n634, v636, bn633, bn635, rfl⟩ := hW609 92 _ rfl
                          refine x_vi C (As := []) (rest := []) (c_bestEggs E l a w608 hW609) mf_X6_bestEggs w_945 92 k631 rfl rfl rfl (Nat.le_of_ble_eq_true rfl) ⟨(Nat.le_of_ble_eq_true rfl), (Nat.le_of_ble_eq_true rfl)⟩ ⟨(Nat.le_of_ble_eq_true rfl), (Nat.le_of_ble_eq_true rfl)⟩ dX11_plan_192 rfl (fun r638 w639 h637 => ?_)
                          have hW640 := h637
                          refine x_ws hW640 ?_
                          refine x_goto C (tgt := 209) dX11_plan_195 (by decide) ?_
                          exact x_zret C hr hlk rfl dX11_plan_209 hW609
                      · skip
                        have nf641 : j551 = 0 := (nI_eq (by omega) (by omega)).mp c615
                        refine x_aload_n C dX11_plan_175 rfl 0 rfl rfl ?_
                        refine x_get C (ci := 10) (k := 9) 0 k611 rfl in_X11 (by decide) w_394 rfl dX11_plan_176 rfl ?_
                        obtain ⟨_, k642, n643, n645, v647, bn644, bn646, rfl⟩ := hW609 92 _ rfl
                        refine x_vi C (As := []) (rest := []) (c_bestWorth E l a w608 hW609) mf_X6_bestWorth w_941 92 k642 rfl rfl rfl (Nat.le_of_ble_eq_true rfl) ⟨(Nat.le_of_ble_eq_true rfl), (Nat.le_of_ble_eq_true rfl)⟩ ⟨(Nat.le_of_ble_eq_true rfl), (Nat.le_of_ble_eq_true rfl)⟩ dX11_plan_179 rfl (fun r649 w650 h648 => ?_)
                        have hW651 := h648
                        refine x_ws hW651 ?_
                        exact x_zret C hr hlk rfl dX11_plan_182 hW609
                    · skip
                      have nf652 := nI_nle' (a := 8) (b := i) c598 (by omega) (by omega)
                      refine x_iload_n C dX11_plan_121 rfl 2 rfl rfl ?_
                      refine x_iload C dX11_plan_122 7 rfl rfl ?_
                      refine x_si C (As := [.int (nI j426), .int (nI i)]) (rest := []) (c_isIn E l a ws hW ((nI j426)) ((nI i))) mf_X11_isIn w_909 rfl rfl (Nat.le_of_ble_eq_true rfl) ⟨(Nat.le_of_ble_eq_true rfl), (Nat.le_of_ble_eq_true rfl)⟩ ⟨(Nat.le_of_ble_eq_true rfl), (Nat.le_of_ble_eq_true rfl)⟩ dX11_plan_124 rfl (fun r654 w655 h653 => ?_)
                      obtain ⟨hW656, zb657, x658⟩ := h653
                      refine x_ws hW656 ?_
                      refine x_if_eq C (tgt := 148) dX11_plan_127 (by decide) rfl (fun c659 => ?_) (fun c659 => ?_)
                      · skip
                        refine x_iinc C (v := (nI (i + 1))) (lv' := [(7, .int (nI (i + 1))), (0, .ref (a 0)), (1, .int (nI j572)), (2, .int (nI j426)), (3, .int (nI j551)), (4, .int v12), (5, .int (nI j583)), (6, .int 0)]) dX11_plan_148 7 rfl (nI_add i 1) (by decide) rfl rfl ?_
                        refine x_goto C (tgt := 114) dX11_plan_151 (by decide) ?_
                        refine x_lv (lv1 := [(0, .ref (a 0)), (1, .int (nI j572)), (2, .int (nI j426)), (3, .int (nI j551)), (4, .int v12), (5, .int (nI j583)), (6, .int 0), (7, .int (nI (i + 1)))]) [1, 2, 3, 4, 5, 6, 7, 0] rfl ?_
                        exact ih114 (i + 1) trivial (by omega) (by omega)
                      · skip
                        have wi660 := wth_le (a := 0) (b := 7) (j := i) (x658 c659) (by omega) (by decide) (by decide)
                        refine x_aload_n C dX11_plan_130 rfl 0 rfl rfl ?_
                        refine x_get C (ci := 10) (k := 2) 0 k1 rfl in_X11 (by decide) w_387 rfl dX11_plan_131 rfl ?_
                        refine x_get C (ci := 8) (k := 5) 5 k3 rfl in_X9 (by decide) w_213 rfl dX11_plan_134 rfl ?_
                        refine x_iload C dX11_plan_137 7 rfl rfl ?_
                        refine x_vi C (As := [.int (nI i)]) (rest := []) (c_Works_isDone E l a ws hW 5 (Or.inl rfl) ((nI i))) mf_X10_isDone w_894 21 k11 rfl rfl rfl (Nat.le_of_ble_eq_true rfl) ⟨(Nat.le_of_ble_eq_true rfl), (Nat.le_of_ble_eq_true rfl)⟩ ⟨(Nat.le_of_ble_eq_true rfl), (Nat.le_of_ble_eq_true rfl)⟩ dX11_plan_139 rfl (fun r662 w663 h661 => ?_)
                        obtain ⟨hW664, zb665, x666⟩ := h661
                        refine x_ws hW664 ?_
                        refine x_if_eq C (tgt := 148) dX11_plan_142 (by decide) rfl (fun c667 => ?_) (fun c667 => ?_)
                        · skip
                          refine x_iinc C (v := (nI (i + 1))) (lv' := [(7, .int (nI (i + 1))), (0, .ref (a 0)), (1, .int (nI j572)), (2, .int (nI j426)), (3, .int (nI j551)), (4, .int v12), (5, .int (nI j583)), (6, .int 0)]) dX11_plan_148 7 rfl (nI_add i 1) (by decide) rfl rfl ?_
                          refine x_goto C (tgt := 114) dX11_plan_151 (by decide) ?_
                          refine x_lv (lv1 := [(0, .ref (a 0)), (1, .int (nI j572)), (2, .int (nI j426)), (3, .int (nI j551)), (4, .int v12), (5, .int (nI j583)), (6, .int 0), (7, .int (nI (i + 1)))]) [1, 2, 3, 4, 5, 6, 7, 0] rfl ?_
                          exact ih114 (i + 1) trivial (by omega) (by omega)
                        · skip
                          have wi668 := wth_le (a := 0) (b := 7) (j := i) (x666 c667) (by omega) (by decide) (by decide)
                          refine x_bipush C (v := (-2)) dX11_plan_145 (by decide) rfl ?_
                          exact x_zret C hr hlk rfl dX11_plan_147 hW
                refine x_lv (lv1 := [(0, .ref (a 0)), (1, .int (nI j572)), (2, .int (nI j426)), (3, .int (nI j551)), (4, .int v12), (5, .int (nI j583)), (6, .int 0), (7, .int 0)]) [4, 5, 6, 7, 3, 2, 1, 0] rfl ?_
                exact loop114 _ 0 trivial (Nat.lt_succ_self _) (by omega)
              · skip
                refine x_iload C dX11_plan_104 0 rfl rfl ?_
                refine x_if_ne C (tgt := 111) dX11_plan_106 (by decide) rfl (fun h => absurd h (by decide)) (fun _ => ?_)
                refine x_iconst C (v := (-1)) dX11_plan_109 (by decide) rfl ?_
                exact x_zret C hr hlk rfl dX11_plan_110 hW
      · skip
        obtain ⟨j669, hl670, hh671, ej672⟩ := w_nat (a := 0) (b := 7) (by decide) (by decide) (x561 c562)
        subst ej672
        refine x_iconst C (v := 1) dX11_plan_55 (by decide) rfl ?_
        refine x_goto C (tgt := 60) dX11_plan_56 (by decide) ?_
        refine x_istore C (lv' := [(6, .int 1), (5, .int r431), (4, .int v12), (0, .ref (a 0)), (1, .int p0), (2, .int (nI j426)), (3, .int (nI j551))]) dX11_plan_60 (by decide) rfl rfl ?_
        refine x_aload_n C dX11_plan_62 rfl 3 rfl rfl ?_
        refine x_get C (ci := 10) (k := 2) 0 k1 rfl in_X11 (by decide) w_387 rfl dX11_plan_63 rfl ?_
        refine x_get C (ci := 8) (k := 3) 5 k3 rfl in_X9 (by decide) w_204 rfl dX11_plan_66 rfl ?_
        refine x_iload_n C dX11_plan_69 rfl 4 rfl rfl ?_
        obtain ⟨_, k673, v674, rfl⟩ := hW 9 _ rfl
        refine x_vi C (As := [.int p0]) (rest := []) (c_People_isTold E l a ws hW 5 (Or.inl rfl) p0) mf_X5_isTold w_465 9 k673 rfl rfl rfl (Nat.le_of_ble_eq_true rfl) ⟨(Nat.le_of_ble_eq_true rfl), (Nat.le_of_ble_eq_true rfl)⟩ ⟨(Nat.le_of_ble_eq_true rfl), (Nat.le_of_ble_eq_true rfl)⟩ dX11_plan_70 rfl (fun r676 w677 h675 => ?_)
        obtain ⟨hW678, zb679, x680⟩ := h675
        refine x_ws hW678 ?_
        refine x_if_eq C (tgt := 109) dX11_plan_73 (by decide) rfl (fun c681 => ?_) (fun c681 => ?_)
        · skip
          refine x_iconst C (v := (-1)) dX11_plan_109 (by decide) rfl ?_
          exact x_zret C hr hlk rfl dX11_plan_110 hW
        · skip
          obtain ⟨j682, hl683, hh684, ej685⟩ := w_nat (a := 0) (b := 7) (by decide) (by decide) (x680 c681)
          subst ej685
          refine x_iload C dX11_plan_76 1 rfl rfl ?_
          refine x_iconst C (v := 1) dX11_plan_78 (by decide) rfl ?_
          refine x_iconst C (v := 4) dX11_plan_79 (by decide) rfl ?_
          refine x_si C (As := [.int r431, .int 1, .int 4]) (rest := []) (c_isWithin E l a ws hW r431 (1 : Int32) (4 : Int32)) mf_X11_isWithin w_462 rfl rfl (Nat.le_of_ble_eq_true rfl) ⟨(Nat.le_of_ble_eq_true rfl), (Nat.le_of_ble_eq_true rfl)⟩ ⟨(Nat.le_of_ble_eq_true rfl), (Nat.le_of_ble_eq_true rfl)⟩ dX11_plan_80 rfl (fun r687 w688 h686 => ?_)
          obtain ⟨hW689, zb690, x691⟩ := h686
          refine x_ws hW689 ?_
          refine x_if_eq C (tgt := 109) dX11_plan_83 (by decide) rfl (fun c692 => ?_) (fun c692 => ?_)
          · skip
            refine x_iconst C (v := (-1)) dX11_plan_109 (by decide) rfl ?_
            exact x_zret C hr hlk rfl dX11_plan_110 hW
          · skip
            obtain ⟨j693, hl694, hh695, ej696⟩ := w_nat (a := 1) (b := 4) (by decide) (by decide) (x691 c692)
            subst ej696
            refine x_iload_n C dX11_plan_86 rfl 5 rfl rfl ?_
            refine x_iload C dX11_plan_87 2 rfl rfl ?_
            refine x_iconst C (v := (-1)) dX11_plan_89 (by decide) rfl ?_
            refine x_ixor C (v := (v12 ^^^ ((-1) : Int32))) dX11_plan_90 rfl rfl ?_
            refine x_any (fun v697 => ?_)
            refine x_iand C (v := ((nI j426) &&& v697)) dX11_plan_91 rfl rfl ?_
            refine x_any (fun v698 => ?_)
            refine x_if_ne C (tgt := 109) dX11_plan_92 (by decide) rfl (fun c699 => ?_) (fun c699 => ?_)
            · skip
              refine x_iconst C (v := (-1)) dX11_plan_109 (by decide) rfl ?_
              exact x_zret C hr hlk rfl dX11_plan_110 hW
            · skip
              refine x_iload_n C dX11_plan_95 rfl 6 rfl rfl ?_
              refine x_iconst C (v := 0) dX11_plan_96 (by decide) rfl ?_
              refine x_iconst C (v := 1) dX11_plan_97 (by decide) rfl ?_
              refine x_si C (As := [.int (nI j551), .int 0, .int 1]) (rest := []) (c_isWithin E l a ws hW ((nI j551)) (0 : Int32) (1 : Int32)) mf_X11_isWithin w_462 rfl rfl (Nat.le_of_ble_eq_true rfl) ⟨(Nat.le_of_ble_eq_true rfl), (Nat.le_of_ble_eq_true rfl)⟩ ⟨(Nat.le_of_ble_eq_true rfl), (Nat.le_of_ble_eq_true rfl)⟩ dX11_plan_98 rfl (fun r701 w702 h700 => ?_)
              obtain ⟨hW703, zb704, x705⟩ := h700
              refine x_ws hW703 ?_
              refine x_if_ne C (tgt := 111) dX11_plan_101 (by decide) rfl (fun c706 => ?_) (fun c706 => ?_)
              · skip
                have wi707 := x705 c706
                refine x_iconst C (v := 0) dX11_plan_111 (by decide) rfl ?_
                refine x_istore C (lv' := [(7, .int 0), (6, .int 1), (5, .int (nI j693)), (4, .int v12), (0, .ref (a 0)), (1, .int (nI j682)), (2, .int (nI j426)), (3, .int (nI j551))]) dX11_plan_112 (by decide) rfl rfl ?_
                have loop114 : ∀ (fu114 : Nat) (i : Nat), True → 8 - i < fu114 → i ≤ 8 → X E p l e (xRm 8 0 0) s m ([.ref (a 0), .int (nI j682), .int (nI j426), .int (nI j551)] : List Value).toArray below meth c A 8 0 0 (MQ below (va_Qi (fun r w => WX (okX E a) w) (xB E A) A) ([.ref (a 0), .int (nI j682), .int (nI j426), .int (nI j551)] : List Value).toArray s 0 0 A) ws 114 [(0, .ref (a 0)), (1, .int (nI j682)), (2, .int (nI j426)), (3, .int (nI j551)), (4, .int v12), (5, .int (nI j693)), (6, .int 1), (7, .int (nI i))] [] := by
                  intro fu114
                  induction fu114 with
                  | zero => intro i _ q; omega
                  | succ fu114 ih114 =>
                    intro i _ me114 iv114_0
                    refine x_iload C dX11_plan_114 7 rfl rfl ?_
                    refine x_bipush C (v := 8) dX11_plan_116 (by decide) rfl ?_
                    refine x_icmp_ge C (tgt := 154) dX11_plan_118 (by decide) rfl (fun c708 => ?_) (fun c708 => ?_)
                    · skip
                      have nf709 := nI_le' (a := 8) (b := i) c708 (by omega) (by omega)
                      refine x_aload_n C dX11_plan_154 rfl 0 rfl rfl ?_
                      refine x_get C (ci := 10) (k := 9) 0 k1 rfl in_X11 (by decide) w_394 rfl dX11_plan_155 rfl ?_
                      refine x_aload_n C dX11_plan_158 rfl 0 rfl rfl ?_
                      refine x_get C (ci := 10) (k := 2) 0 k1 rfl in_X11 (by decide) w_387 rfl dX11_plan_159 rfl ?_
                      refine x_aload_n C dX11_plan_162 rfl 0 rfl rfl ?_
                      refine x_get C (ci := 10) (k := 6) 0 k1 rfl in_X11 (by decide) w_391 rfl dX11_plan_163 rfl ?_
                      refine x_iload_n C dX11_plan_166 rfl 1 rfl rfl ?_
                      refine x_iload_n C dX11_plan_167 rfl 2 rfl rfl ?_
                      obtain ⟨_, k710, n711, n713, v715, bn712, bn714, rfl⟩ := hW 92 _ rfl
                      refine x_vv C (As := [.ref (a 5), .ref (a 71), .int (nI j682), .int (nI j426)]) (rest := []) (c_planFind E l a ws hW 5 (Or.inl rfl) ((nI j682)) ((nI j426))) mf_X6_find w_910 92 k710 rfl rfl rfl (Nat.le_of_ble_eq_true rfl) ⟨(Nat.le_of_ble_eq_true rfl), (Nat.le_of_ble_eq_true rfl)⟩ ⟨(Nat.le_of_ble_eq_true rfl), (Nat.le_of_ble_eq_true rfl)⟩ dX11_plan_168 rfl (fun w718 h716 => ?_)
                      obtain ⟨hW719, kq720⟩ := h716
                      have k721 : w718[0]? = some (ob (a 0) 10 [.ref (a 1), .ref (a 3), .ref (a 5), .ref (a 27), .ref (a 49), .int v2, .ref (a 71), .ref (a 79), .ref (a 87), .ref (a 92), .ref (a 103), .ref (a 105), .ref (a 106), .ref (a 107), .ref (a 108), .ref (a 109), .ref (a 110), .ref (a 111), .ref (a 112)]) := keeps_at kq720 k1 (by first | decide | omega | (dsimp only; omega))
                      have k722 : w718[5]? = some (ob (a 5) 8 [.int (nI n4), .int v6, .ref (a 6), .ref (a 9), .ref (a 14), .ref (a 21), .int v7, .int v8, .int v9, .int v10]) := keeps_at kq720 k3 (by first | decide | omega | (dsimp only; omega))
                      have k723 : w718[21]? = some (ob (a 21) 9 [.int v12, .ref (a 22), .ref (a 23), .ref (a 24), .ref (a 25), .ref (a 26)]) := keeps_at kq720 k11 (by first | decide | omega | (dsimp only; omega))
                      have k724 : w718[9]? = some (ob (a 9) 4 [.int v674, .ref (a 10), .ref (a 11), .ref (a 12), .ref (a 13)]) := keeps_at kq720 k673 (by first | decide | omega | (dsimp only; omega))
                      refine x_iload_n C dX11_plan_171 rfl 3 rfl rfl ?_
                      refine x_if_ne C (tgt := 183) dX11_plan_172 (by decide) rfl (fun c725 => ?_) (fun c725 => ?_)
                      · skip
                        have nf726 : ¬ j551 = 0 := fun q => c725 (congrArg nI q)
                        refine x_iload_n C dX11_plan_183 rfl 3 rfl rfl ?_
                        refine x_iconst C (v := 1) dX11_plan_184 (by decide) rfl ?_
                        refine x_icmp_ne C (tgt := 198) dX11_plan_185 (by decide) rfl (fun c727 => ?_) (fun c727 => ?_)
                        · skip
                          have nf728 : ¬ j551 = 1 := fun q => c727 (congrArg nI q)
                          refine x_aload_n C dX11_plan_198 rfl 0 rfl rfl ?_
                          refine x_get C (ci := 10) (k := 9) 0 k721 rfl in_X11 (by decide) w_394 rfl dX11_plan_199 rfl ?_
                          refine x_iload_n C dX11_plan_202 rfl 3 rfl rfl ?_
                          refine x_bipush C (v := 10) dX11_plan_203 (by decide) rfl ?_
                          refine x_isub C (v := ((nI j551) - (10 : Int32))) dX11_plan_205 rfl rfl ?_
                          refine x_any (fun v729 => ?_)
                          obtain ⟨_, k730, n731, n733, v735, bn732, bn734, rfl⟩ := hW719 92 _ rfl
                          refine x_vi C (As := [.int v729]) (rest := []) (c_rowOf E l a w718 hW719 v729) mf_X6_rowOf w_950 92 k730 rfl rfl rfl (Nat.le_of_ble_eq_true rfl) ⟨(Nat.le_of_ble_eq_true rfl), (Nat.le_of_ble_eq_true rfl)⟩ ⟨(Nat.le_of_ble_eq_true rfl), (Nat.le_of_ble_eq_true rfl)⟩ dX11_plan_206 rfl (fun r737 w738 h736 => ?_)
                          have hW739 := h736
                          refine x_ws hW739 ?_
                          exact x_zret C hr hlk rfl dX11_plan_209 hW719
                        · skip
                          have nf740 : j551 = 1 := (nI_eq (by omega) (by omega)).mp c727
                          refine x_aload_n C dX11_plan_188 rfl 0 rfl rfl ?_
                          refine x_get C (ci := 10) (k := 9) 0 k721 rfl in_X11 (by decide) w_394 rfl dX11_plan_189 rfl ?_
                          obtain ⟨_, k741, n742, n744, v746, bn743, bn745, rfl⟩ := hW719 92 _ rfl
                          refine x_vi C (As := []) (rest := []) (c_bestEggs E l a w718 hW719) mf_X6_bestEggs w_945 92 k741 rfl rfl rfl (Nat.le_of_ble_eq_true rfl) ⟨(Nat.le_of_ble_eq_true rfl), (Nat.le_of_ble_eq_true rfl)⟩ ⟨(Nat.le_of_ble_eq_true rfl), (Nat.le_of_ble_eq_true rfl)⟩ dX11_plan_192 rfl (fun r748 w749 h747 => ?_)
                          have hW750 := h747
                          refine x_ws hW750 ?_
                          refine x_goto C (tgt := 209) dX11_plan_195 (by decide) ?_
                          exact x_zret C hr hlk rfl dX11_plan_209 hW719
                      · skip
                        have nf751 : j551 = 0 := (nI_eq (by omega) (by omega)).mp c725
                        refine x_aload_n C dX11_plan_175 rfl 0 rfl rfl ?_
                        refine x_get C (ci := 10) (k := 9) 0 k721 rfl in_X11 (by decide) w_394 rfl dX11_plan_176 rfl ?_
                        obtain ⟨_, k752, n753, n755, v757, bn754, bn756, rfl⟩ := hW719 92 _ rfl
                        refine x_vi C (As := []) (rest := []) (c_bestWorth E l a w718 hW719) mf_X6_bestWorth w_941 92 k752 rfl rfl rfl (Nat.le_of_ble_eq_true rfl) ⟨(Nat.le_of_ble_eq_true rfl), (Nat.le_of_ble_eq_true rfl)⟩ ⟨(Nat.le_of_ble_eq_true rfl), (Nat.le_of_ble_eq_true rfl)⟩ dX11_plan_179 rfl (fun r759 w760 h758 => ?_)
                        have hW761 := h758
                        refine x_ws hW761 ?_
                        exact x_zret C hr hlk rfl dX11_plan_182 hW719
                    · skip
                      have nf762 := nI_nle' (a := 8) (b := i) c708 (by omega) (by omega)
                      refine x_iload_n C dX11_plan_121 rfl 2 rfl rfl ?_
                      refine x_iload C dX11_plan_122 7 rfl rfl ?_
                      refine x_si C (As := [.int (nI j426), .int (nI i)]) (rest := []) (c_isIn E l a ws hW ((nI j426)) ((nI i))) mf_X11_isIn w_909 rfl rfl (Nat.le_of_ble_eq_true rfl) ⟨(Nat.le_of_ble_eq_true rfl), (Nat.le_of_ble_eq_true rfl)⟩ ⟨(Nat.le_of_ble_eq_true rfl), (Nat.le_of_ble_eq_true rfl)⟩ dX11_plan_124 rfl (fun r764 w765 h763 => ?_)
                      obtain ⟨hW766, zb767, x768⟩ := h763
                      refine x_ws hW766 ?_
                      refine x_if_eq C (tgt := 148) dX11_plan_127 (by decide) rfl (fun c769 => ?_) (fun c769 => ?_)
                      · skip
                        refine x_iinc C (v := (nI (i + 1))) (lv' := [(7, .int (nI (i + 1))), (0, .ref (a 0)), (1, .int (nI j682)), (2, .int (nI j426)), (3, .int (nI j551)), (4, .int v12), (5, .int (nI j693)), (6, .int 1)]) dX11_plan_148 7 rfl (nI_add i 1) (by decide) rfl rfl ?_
                        refine x_goto C (tgt := 114) dX11_plan_151 (by decide) ?_
                        refine x_lv (lv1 := [(0, .ref (a 0)), (1, .int (nI j682)), (2, .int (nI j426)), (3, .int (nI j551)), (4, .int v12), (5, .int (nI j693)), (6, .int 1), (7, .int (nI (i + 1)))]) [1, 2, 3, 4, 5, 6, 7, 0] rfl ?_
                        exact ih114 (i + 1) trivial (by omega) (by omega)
                      · skip
                        have wi770 := wth_le (a := 0) (b := 7) (j := i) (x768 c769) (by omega) (by decide) (by decide)
                        refine x_aload_n C dX11_plan_130 rfl 0 rfl rfl ?_
                        refine x_get C (ci := 10) (k := 2) 0 k1 rfl in_X11 (by decide) w_387 rfl dX11_plan_131 rfl ?_
                        refine x_get C (ci := 8) (k := 5) 5 k3 rfl in_X9 (by decide) w_213 rfl dX11_plan_134 rfl ?_
                        refine x_iload C dX11_plan_137 7 rfl rfl ?_
                        refine x_vi C (As := [.int (nI i)]) (rest := []) (c_Works_isDone E l a ws hW 5 (Or.inl rfl) ((nI i))) mf_X10_isDone w_894 21 k11 rfl rfl rfl (Nat.le_of_ble_eq_true rfl) ⟨(Nat.le_of_ble_eq_true rfl), (Nat.le_of_ble_eq_true rfl)⟩ ⟨(Nat.le_of_ble_eq_true rfl), (Nat.le_of_ble_eq_true rfl)⟩ dX11_plan_139 rfl (fun r772 w773 h771 => ?_)
                        obtain ⟨hW774, zb775, x776⟩ := h771
                        refine x_ws hW774 ?_
                        refine x_if_eq C (tgt := 148) dX11_plan_142 (by decide) rfl (fun c777 => ?_) (fun c777 => ?_)
                        · skip
                          refine x_iinc C (v := (nI (i + 1))) (lv' := [(7, .int (nI (i + 1))), (0, .ref (a 0)), (1, .int (nI j682)), (2, .int (nI j426)), (3, .int (nI j551)), (4, .int v12), (5, .int (nI j693)), (6, .int 1)]) dX11_plan_148 7 rfl (nI_add i 1) (by decide) rfl rfl ?_
                          refine x_goto C (tgt := 114) dX11_plan_151 (by decide) ?_
                          refine x_lv (lv1 := [(0, .ref (a 0)), (1, .int (nI j682)), (2, .int (nI j426)), (3, .int (nI j551)), (4, .int v12), (5, .int (nI j693)), (6, .int 1), (7, .int (nI (i + 1)))]) [1, 2, 3, 4, 5, 6, 7, 0] rfl ?_
                          exact ih114 (i + 1) trivial (by omega) (by omega)
                        · skip
                          have wi778 := wth_le (a := 0) (b := 7) (j := i) (x776 c777) (by omega) (by decide) (by decide)
                          refine x_bipush C (v := (-2)) dX11_plan_145 (by decide) rfl ?_
                          exact x_zret C hr hlk rfl dX11_plan_147 hW
                refine x_lv (lv1 := [(0, .ref (a 0)), (1, .int (nI j682)), (2, .int (nI j426)), (3, .int (nI j551)), (4, .int v12), (5, .int (nI j693)), (6, .int 1), (7, .int 0)]) [4, 5, 6, 7, 3, 2, 1, 0] rfl ?_
                exact loop114 _ 0 trivial (Nat.lt_succ_self _) (by omega)
              · skip
                refine x_iload C dX11_plan_104 0 rfl rfl ?_
                refine x_if_ne C (tgt := 111) dX11_plan_106 (by decide) rfl (fun _ => ?_) (fun h => absurd h (by decide))
                refine x_iconst C (v := 0) dX11_plan_111 (by decide) rfl ?_
                refine x_istore C (lv' := [(7, .int 0), (6, .int 1), (5, .int (nI j693)), (4, .int v12), (0, .ref (a 0)), (1, .int (nI j682)), (2, .int (nI j426)), (3, .int (nI j551))]) dX11_plan_112 (by decide) rfl rfl ?_
                have loop114 : ∀ (fu114 : Nat) (i : Nat), True → 8 - i < fu114 → i ≤ 8 → X E p l e (xRm 8 0 0) s m ([.ref (a 0), .int (nI j682), .int (nI j426), .int (nI j551)] : List Value).toArray below meth c A 8 0 0 (MQ below (va_Qi (fun r w => WX (okX E a) w) (xB E A) A) ([.ref (a 0), .int (nI j682), .int (nI j426), .int (nI j551)] : List Value).toArray s 0 0 A) ws 114 [(0, .ref (a 0)), (1, .int (nI j682)), (2, .int (nI j426)), (3, .int (nI j551)), (4, .int v12), (5, .int (nI j693)), (6, .int 1), (7, .int (nI i))] [] := by
                  intro fu114
                  induction fu114 with
                  | zero => intro i _ q; omega
                  | succ fu114 ih114 =>
                    intro i _ me114 iv114_0
                    refine x_iload C dX11_plan_114 7 rfl rfl ?_
                    refine x_bipush C (v := 8) dX11_plan_116 (by decide) rfl ?_
                    refine x_icmp_ge C (tgt := 154) dX11_plan_118 (by decide) rfl (fun c779 => ?_) (fun c779 => ?_)
                    · skip
                      have nf780 := nI_le' (a := 8) (b := i) c779 (by omega) (by omega)
                      refine x_aload_n C dX11_plan_154 rfl 0 rfl rfl ?_
                      refine x_get C (ci := 10) (k := 9) 0 k1 rfl in_X11 (by decide) w_394 rfl dX11_plan_155 rfl ?_
                      refine x_aload_n C dX11_plan_158 rfl 0 rfl rfl ?_
                      refine x_get C (ci := 10) (k := 2) 0 k1 rfl in_X11 (by decide) w_387 rfl dX11_plan_159 rfl ?_
                      refine x_aload_n C dX11_plan_162 rfl 0 rfl rfl ?_
                      refine x_get C (ci := 10) (k := 6) 0 k1 rfl in_X11 (by decide) w_391 rfl dX11_plan_163 rfl ?_
                      refine x_iload_n C dX11_plan_166 rfl 1 rfl rfl ?_
                      refine x_iload_n C dX11_plan_167 rfl 2 rfl rfl ?_
                      obtain ⟨_, k781, n782, n784, v786, bn783, bn785, rfl⟩ := hW 92 _ rfl
                      refine x_vv C (As := [.ref (a 5), .ref (a 71), .int (nI j682), .int (nI j426)]) (rest := []) (c_planFind E l a ws hW 5 (Or.inl rfl) ((nI j682)) ((nI j426))) mf_X6_find w_910 92 k781 rfl rfl rfl (Nat.le_of_ble_eq_true rfl) ⟨(Nat.le_of_ble_eq_true rfl), (Nat.le_of_ble_eq_true rfl)⟩ ⟨(Nat.le_of_ble_eq_true rfl), (Nat.le_of_ble_eq_true rfl)⟩ dX11_plan_168 rfl (fun w789 h787 => ?_)
                      obtain ⟨hW790, kq791⟩ := h787
                      have k792 : w789[0]? = some (ob (a 0) 10 [.ref (a 1), .ref (a 3), .ref (a 5), .ref (a 27), .ref (a 49), .int v2, .ref (a 71), .ref (a 79), .ref (a 87), .ref (a 92), .ref (a 103), .ref (a 105), .ref (a 106), .ref (a 107), .ref (a 108), .ref (a 109), .ref (a 110), .ref (a 111), .ref (a 112)]) := keeps_at kq791 k1 (by first | decide | omega | (dsimp only; omega))
                      have k793 : w789[5]? = some (ob (a 5) 8 [.int (nI n4), .int v6, .ref (a 6), .ref (a 9), .ref (a 14), .ref (a 21), .int v7, .int v8, .int v9, .int v10]) := keeps_at kq791 k3 (by first | decide | omega | (dsimp only; omega))
                      have k794 : w789[21]? = some (ob (a 21) 9 [.int v12, .ref (a 22), .ref (a 23), .ref (a 24), .ref (a 25), .ref (a 26)]) := keeps_at kq791 k11 (by first | decide | omega | (dsimp only; omega))
                      have k795 : w789[9]? = some (ob (a 9) 4 [.int v674, .ref (a 10), .ref (a 11), .ref (a 12), .ref (a 13)]) := keeps_at kq791 k673 (by first | decide | omega | (dsimp only; omega))
                      refine x_iload_n C dX11_plan_171 rfl 3 rfl rfl ?_
                      refine x_if_ne C (tgt := 183) dX11_plan_172 (by decide) rfl (fun c796 => ?_) (fun c796 => ?_)
                      · skip
                        have nf797 : ¬ j551 = 0 := fun q => c796 (congrArg nI q)
                        refine x_iload_n C dX11_plan_183 rfl 3 rfl rfl ?_
                        refine x_iconst C (v := 1) dX11_plan_184 (by decide) rfl ?_
                        refine x_icmp_ne C (tgt := 198) dX11_plan_185 (by decide) rfl (fun c798 => ?_) (fun c798 => ?_)
                        · skip
                          have nf799 : ¬ j551 = 1 := fun q => c798 (congrArg nI q)
                          refine x_aload_n C dX11_plan_198 rfl 0 rfl rfl ?_
                          refine x_get C (ci := 10) (k := 9) 0 k792 rfl in_X11 (by decide) w_394 rfl dX11_plan_199 rfl ?_
                          refine x_iload_n C dX11_plan_202 rfl 3 rfl rfl ?_
                          refine x_bipush C (v := 10) dX11_plan_203 (by decide) rfl ?_
                          refine x_isub C (v := ((nI j551) - (10 : Int32))) dX11_plan_205 rfl rfl ?_
                          refine x_any (fun v800 => ?_)
                          obtain ⟨_, k801, n802, n804, v806, bn803, bn805, rfl⟩ := hW790 92 _ rfl
                          refine x_vi C (As := [.int v800]) (rest := []) (c_rowOf E l a w789 hW790 v800) mf_X6_rowOf w_950 92 k801 rfl rfl rfl (Nat.le_of_ble_eq_true rfl) ⟨(Nat.le_of_ble_eq_true rfl), (Nat.le_of_ble_eq_true rfl)⟩ ⟨(Nat.le_of_ble_eq_true rfl), (Nat.le_of_ble_eq_true rfl)⟩ dX11_plan_206 rfl (fun r808 w809 h807 => ?_)
                          have hW810 := h807
                          refine x_ws hW810 ?_
                          exact x_zret C hr hlk rfl dX11_plan_209 hW790
                        · skip
                          have nf811 : j551 = 1 := (nI_eq (by omega) (by omega)).mp c798
                          refine x_aload_n C dX11_plan_188 rfl 0 rfl rfl ?_
                          refine x_get C (ci := 10) (k := 9) 0 k792 rfl in_X11 (by decide) w_394 rfl dX11_plan_189 rfl ?_
                          obtain ⟨_, k812, n813, n815, v817, bn814, bn816, rfl⟩ := hW790 92 _ rfl
                          refine x_vi C (As := []) (rest := []) (c_bestEggs E l a w789 hW790) mf_X6_bestEggs w_945 92 k812 rfl rfl rfl (Nat.le_of_ble_eq_true rfl) ⟨(Nat.le_of_ble_eq_true rfl), (Nat.le_of_ble_eq_true rfl)⟩ ⟨(Nat.le_of_ble_eq_true rfl), (Nat.le_of_ble_eq_true rfl)⟩ dX11_plan_192 rfl (fun r819 w820 h818 => ?_)
                          have hW821 := h818
                          refine x_ws hW821 ?_
                          refine x_goto C (tgt := 209) dX11_plan_195 (by decide) ?_
                          exact x_zret C hr hlk rfl dX11_plan_209 hW790
                      · skip
                        have nf822 : j551 = 0 := (nI_eq (by omega) (by omega)).mp c796
                        refine x_aload_n C dX11_plan_175 rfl 0 rfl rfl ?_
                        refine x_get C (ci := 10) (k := 9) 0 k792 rfl in_X11 (by decide) w_394 rfl dX11_plan_176 rfl ?_
                        obtain ⟨_, k823, n824, n826, v828, bn825, bn827, rfl⟩ := hW790 92 _ rfl
                        refine x_vi C (As := []) (rest := []) (c_bestWorth E l a w789 hW790) mf_X6_bestWorth w_941 92 k823 rfl rfl rfl (Nat.le_of_ble_eq_true rfl) ⟨(Nat.le_of_ble_eq_true rfl), (Nat.le_of_ble_eq_true rfl)⟩ ⟨(Nat.le_of_ble_eq_true rfl), (Nat.le_of_ble_eq_true rfl)⟩ dX11_plan_179 rfl (fun r830 w831 h829 => ?_)
                        have hW832 := h829
                        refine x_ws hW832 ?_
                        exact x_zret C hr hlk rfl dX11_plan_182 hW790
                    · skip
                      have nf833 := nI_nle' (a := 8) (b := i) c779 (by omega) (by omega)
                      refine x_iload_n C dX11_plan_121 rfl 2 rfl rfl ?_
                      refine x_iload C dX11_plan_122 7 rfl rfl ?_
                      refine x_si C (As := [.int (nI j426), .int (nI i)]) (rest := []) (c_isIn E l a ws hW ((nI j426)) ((nI i))) mf_X11_isIn w_909 rfl rfl (Nat.le_of_ble_eq_true rfl) ⟨(Nat.le_of_ble_eq_true rfl), (Nat.le_of_ble_eq_true rfl)⟩ ⟨(Nat.le_of_ble_eq_true rfl), (Nat.le_of_ble_eq_true rfl)⟩ dX11_plan_124 rfl (fun r835 w836 h834 => ?_)
                      obtain ⟨hW837, zb838, x839⟩ := h834
                      refine x_ws hW837 ?_
                      refine x_if_eq C (tgt := 148) dX11_plan_127 (by decide) rfl (fun c840 => ?_) (fun c840 => ?_)
                      · skip
                        refine x_iinc C (v := (nI (i + 1))) (lv' := [(7, .int (nI (i + 1))), (0, .ref (a 0)), (1, .int (nI j682)), (2, .int (nI j426)), (3, .int (nI j551)), (4, .int v12), (5, .int (nI j693)), (6, .int 1)]) dX11_plan_148 7 rfl (nI_add i 1) (by decide) rfl rfl ?_
                        refine x_goto C (tgt := 114) dX11_plan_151 (by decide) ?_
                        refine x_lv (lv1 := [(0, .ref (a 0)), (1, .int (nI j682)), (2, .int (nI j426)), (3, .int (nI j551)), (4, .int v12), (5, .int (nI j693)), (6, .int 1), (7, .int (nI (i + 1)))]) [1, 2, 3, 4, 5, 6, 7, 0] rfl ?_
                        exact ih114 (i + 1) trivial (by omega) (by omega)
                      · skip
                        have wi841 := wth_le (a := 0) (b := 7) (j := i) (x839 c840) (by omega) (by decide) (by decide)
                        refine x_aload_n C dX11_plan_130 rfl 0 rfl rfl ?_
                        refine x_get C (ci := 10) (k := 2) 0 k1 rfl in_X11 (by decide) w_387 rfl dX11_plan_131 rfl ?_
                        refine x_get C (ci := 8) (k := 5) 5 k3 rfl in_X9 (by decide) w_213 rfl dX11_plan_134 rfl ?_
                        refine x_iload C dX11_plan_137 7 rfl rfl ?_
                        refine x_vi C (As := [.int (nI i)]) (rest := []) (c_Works_isDone E l a ws hW 5 (Or.inl rfl) ((nI i))) mf_X10_isDone w_894 21 k11 rfl rfl rfl (Nat.le_of_ble_eq_true rfl) ⟨(Nat.le_of_ble_eq_true rfl), (Nat.le_of_ble_eq_true rfl)⟩ ⟨(Nat.le_of_ble_eq_true rfl), (Nat.le_of_ble_eq_true rfl)⟩ dX11_plan_139 rfl (fun r843 w844 h842 => ?_)
                        obtain ⟨hW845, zb846, x847⟩ := h842
                        refine x_ws hW845 ?_
                        refine x_if_eq C (tgt := 148) dX11_plan_142 (by decide) rfl (fun c848 => ?_) (fun c848 => ?_)
                        · skip
                          refine x_iinc C (v := (nI (i + 1))) (lv' := [(7, .int (nI (i + 1))), (0, .ref (a 0)), (1, .int (nI j682)), (2, .int (nI j426)), (3, .int (nI j551)), (4, .int v12), (5, .int (nI j693)), (6, .int 1)]) dX11_plan_148 7 rfl (nI_add i 1) (by decide) rfl rfl ?_
                          refine x_goto C (tgt := 114) dX11_plan_151 (by decide) ?_
                          refine x_lv (lv1 := [(0, .ref (a 0)), (1, .int (nI j682)), (2, .int (nI j426)), (3, .int (nI j551)), (4, .int v12), (5, .int (nI j693)), (6, .int 1), (7, .int (nI (i + 1)))]) [1, 2, 3, 4, 5, 6, 7, 0] rfl ?_
                          exact ih114 (i + 1) trivial (by omega) (by omega)
                        · skip
                          have wi849 := wth_le (a := 0) (b := 7) (j := i) (x847 c848) (by omega) (by decide) (by decide)
                          refine x_bipush C (v := (-2)) dX11_plan_145 (by decide) rfl ?_
                          exact x_zret C hr hlk rfl dX11_plan_147 hW
                refine x_lv (lv1 := [(0, .ref (a 0)), (1, .int (nI j682)), (2, .int (nI j426)), (3, .int (nI j551)), (4, .int v12), (5, .int (nI j693)), (6, .int 1), (7, .int 0)]) [4, 5, 6, 7, 3, 2, 1, 0] rfl ?_
                exact loop114 _ 0 trivial (Nat.lt_succ_self _) (by omega)
