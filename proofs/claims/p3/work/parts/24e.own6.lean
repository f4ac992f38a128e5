theorem dX11_isSteady_0 : decode cX11_isSteady 0 = .ok (.iload_n 1, 1) := by decide +kernel
theorem dX11_isSteady_1 : decode cX11_isSteady 1 = .ok (.invokestatic 281, 3) := by decide +kernel
theorem dX11_isSteady_4 : decode cX11_isSteady 4 = .ok (.istore_n 3, 1) := by decide +kernel
theorem dX11_isSteady_5 : decode cX11_isSteady 5 = .ok (.iconst 0, 1) := by decide +kernel
theorem dX11_isSteady_6 : decode cX11_isSteady 6 = .ok (.istore 4, 2) := by decide +kernel
theorem dX11_isSteady_8 : decode cX11_isSteady 8 = .ok (.iload 4, 2) := by decide +kernel
theorem dX11_isSteady_10 : decode cX11_isSteady 10 = .ok (.iload_n 2, 1) := by decide +kernel
theorem dX11_isSteady_11 : decode cX11_isSteady 11 = .ok (.if_icmp .ge 57, 3) := by decide +kernel
theorem dX11_isSteady_14 : decode cX11_isSteady 14 = .ok (.iload_n 1, 1) := by decide +kernel
theorem dX11_isSteady_15 : decode cX11_isSteady 15 = .ok (.iload 4, 2) := by decide +kernel
theorem dX11_isSteady_17 : decode cX11_isSteady 17 = .ok (.invokestatic 286, 3) := by decide +kernel
theorem dX11_isSteady_20 : decode cX11_isSteady 20 = .ok (.ifCond .eq 22, 3) := by decide +kernel
theorem dX11_isSteady_23 : decode cX11_isSteady 23 = .ok (.aload_n 0, 1) := by decide +kernel
theorem dX11_isSteady_24 : decode cX11_isSteady 24 = .ok (.getfield 67, 3) := by decide +kernel
theorem dX11_isSteady_27 : decode cX11_isSteady 27 = .ok (.iload 4, 2) := by decide +kernel
theorem dX11_isSteady_29 : decode cX11_isSteady 29 = .ok (.iaload, 1) := by decide +kernel
theorem dX11_isSteady_30 : decode cX11_isSteady 30 = .ok (.aload_n 0, 1) := by decide +kernel
theorem dX11_isSteady_31 : decode cX11_isSteady 31 = .ok (.getfield 89, 3) := by decide +kernel
theorem dX11_isSteady_34 : decode cX11_isSteady 34 = .ok (.iload_n 3, 1) := by decide +kernel
theorem dX11_isSteady_35 : decode cX11_isSteady 35 = .ok (.iaload, 1) := by decide +kernel
theorem dX11_isSteady_36 : decode cX11_isSteady 36 = .ok (.if_icmp .le 26, 3) := by decide +kernel
theorem dX11_isSteady_39 : decode cX11_isSteady 39 = .ok (.goto 21, 3) := by decide +kernel
theorem dX11_isSteady_42 : decode cX11_isSteady 42 = .ok (.aload_n 0, 1) := by decide +kernel
theorem dX11_isSteady_43 : decode cX11_isSteady 43 = .ok (.getfield 89, 3) := by decide +kernel
theorem dX11_isSteady_46 : decode cX11_isSteady 46 = .ok (.iload_n 3, 1) := by decide +kernel
theorem dX11_isSteady_47 : decode cX11_isSteady 47 = .ok (.iconst 1, 1) := by decide +kernel
theorem dX11_isSteady_48 : decode cX11_isSteady 48 = .ok (.iadd, 1) := by decide +kernel
theorem dX11_isSteady_49 : decode cX11_isSteady 49 = .ok (.iaload, 1) := by decide +kernel
theorem dX11_isSteady_50 : decode cX11_isSteady 50 = .ok (.aload_n 0, 1) := by decide +kernel
theorem dX11_isSteady_51 : decode cX11_isSteady 51 = .ok (.getfield 67, 3) := by decide +kernel
theorem dX11_isSteady_54 : decode cX11_isSteady 54 = .ok (.iload 4, 2) := by decide +kernel
theorem dX11_isSteady_56 : decode cX11_isSteady 56 = .ok (.iaload, 1) := by decide +kernel
theorem dX11_isSteady_57 : decode cX11_isSteady 57 = .ok (.if_icmp .le 5, 3) := by decide +kernel
theorem dX11_isSteady_60 : decode cX11_isSteady 60 = .ok (.iconst 0, 1) := by decide +kernel
theorem dX11_isSteady_61 : decode cX11_isSteady 61 = .ok (.ireturn, 1) := by decide +kernel
theorem dX11_isSteady_62 : decode cX11_isSteady 62 = .ok (.iinc 4 1, 3) := by decide +kernel
theorem dX11_isSteady_65 : decode cX11_isSteady 65 = .ok (.goto (-57), 3) := by decide +kernel
theorem dX11_isSteady_68 : decode cX11_isSteady 68 = .ok (.iconst 1, 1) := by decide +kernel
theorem dX11_isSteady_69 : decode cX11_isSteady 69 = .ok (.ireturn, 1) := by decide +kernel
set_option maxRecDepth 20000 in
set_option maxHeartbeats 4000000 in
theorem c_isSteady (E : xE) (l : Launch) (a : Nat → Nat) (ws : va_W) (hW : WX (okX E a) ws) (s0 : Nat) (n0 : Nat) (hs0 : s0 ≤ 31) (hn0 : n0 ≤ 5) : xI E l yX11_isSteady cX11_isSteady 5 (some .boolean) 1 [.ref (a 0), .int (nI s0), .int (nI n0)] ws (fun r w => w = ws ∧ zb r) := by
  refine xI_start (lv := [(0, .ref (a 0)), (1, .int (nI s0)), (2, .int (nI n0))]) RX11 (by decide) rfl (Nat.le_of_ble_eq_true rfl) rfl (fun p e s m below meth c A C hr hlk => ?_)
  refine x_iload_n C dX11_isSteady_0 rfl 1 rfl rfl ?_
  refine x_si C (As := [.int (nI s0)]) (rest := []) (c_bitCount E l a ws hW ((nI s0))) mf_J6_bitCount_0f7a4 w_903 rfl rfl (Nat.le_of_ble_eq_true rfl) ⟨(Nat.le_of_ble_eq_true rfl), (Nat.le_of_ble_eq_true rfl)⟩ ⟨(Nat.le_of_ble_eq_true rfl), (Nat.le_of_ble_eq_true rfl)⟩ dX11_isSteady_1 rfl (fun r2 w3 h1 => ?_)
  obtain ⟨hW4, x5⟩ := h1
  refine x_ws hW4 ?_
  obtain ⟨kk6, hk7, ek8⟩ := bc_five (i := s0) (by omega)
  refine x_top (x5.trans ek8) ?_
  refine x_istore_n C (lv' := [(3, .int (nI kk6)), (0, .ref (a 0)), (1, .int (nI s0)), (2, .int (nI n0))]) dX11_isSteady_4 rfl (by decide) rfl rfl ?_
  refine x_iconst C (v := 0) dX11_isSteady_5 (by decide) rfl ?_
  refine x_istore C (lv' := [(4, .int 0), (3, .int (nI kk6)), (0, .ref (a 0)), (1, .int (nI s0)), (2, .int (nI n0))]) dX11_isSteady_6 (by decide) rfl rfl ?_
  have loop8 : ∀ (fu8 : Nat) (k : Nat), True → 5 - k < fu8 → k ≤ 5 → X E p l e (xRm 1 0 0) s m ([.ref (a 0), .int (nI s0), .int (nI n0)] : List Value).toArray below meth c A 5 0 0 (MQ below (va_Qi (fun r w => w = ws ∧ zb r) (xB E A) A) ([.ref (a 0), .int (nI s0), .int (nI n0)] : List Value).toArray s 0 0 A) ws 8 [(0, .ref (a 0)), (1, .int (nI s0)), (2, .int (nI n0)), (3, .int (nI kk6)), (4, .int (nI k))] [] := by
    intro fu8
    induction fu8 with
    | zero => intro k _ q; omega
    | succ fu8 ih8 =>
      intro k _ me8 iv8_0
      refine x_iload C dX11_isSteady_8 4 rfl rfl ?_
      refine x_iload_n C dX11_isSteady_10 rfl 2 rfl rfl ?_
      refine x_icmp_ge C (tgt := 68) dX11_isSteady_11 (by decide) rfl (fun c9 => ?_) (fun c9 => ?_)
      · skip
        have nf10 := nI_le' (a := n0) (b := k) c9 (by omega) (by omega)
        refine x_iconst C (v := 1) dX11_isSteady_68 (by decide) rfl ?_
        exact x_zret C hr hlk rfl dX11_isSteady_69 ⟨rfl, (Or.inr rfl)⟩
      · skip
        have nf11 := nI_nle' (a := n0) (b := k) c9 (by omega) (by omega)
        refine x_iload_n C dX11_isSteady_14 rfl 1 rfl rfl ?_
        refine x_iload C dX11_isSteady_15 4 rfl rfl ?_
        refine x_si C (As := [.int (nI s0), .int (nI k)]) (rest := []) (c_isIn E l a ws hW ((nI s0)) ((nI k))) mf_X11_isIn w_909 rfl rfl (Nat.le_of_ble_eq_true rfl) ⟨(Nat.le_of_ble_eq_true rfl), (Nat.le_of_ble_eq_true rfl)⟩ ⟨(Nat.le_of_ble_eq_true rfl), (Nat.le_of_ble_eq_true rfl)⟩ dX11_isSteady_17 rfl (fun r13 w14 h12 => ?_)
        obtain ⟨hW15, zb16, x17⟩ := h12
        refine x_ws hW15 ?_
        refine x_if_eq C (tgt := 42) dX11_isSteady_20 (by decide) rfl (fun c18 => ?_) (fun c18 => ?_)
        · skip
          refine x_aload_n C dX11_isSteady_42 rfl 0 rfl rfl ?_
          obtain ⟨_, k19, v20, rfl⟩ := hW 0 _ rfl
          refine x_get C (ci := 10) (k := 18) 0 k19 rfl in_X11 (by decide) w_403 rfl dX11_isSteady_43 rfl ?_
          refine x_iload_n C dX11_isSteady_46 rfl 3 rfl rfl ?_
          refine x_iconst C (v := 1) dX11_isSteady_47 (by decide) rfl ?_
          refine x_iadd C (v := (nI (kk6 + 1))) dX11_isSteady_48 (nI_add kk6 1) rfl ?_
          obtain ⟨_, k21, f22, rfl⟩ := hW 112 _ rfl
          refine x_iald C (v := (f22 (nI (kk6 + 1)).toNatClampNeg)) 112 k21 (vp_in_nI (by omega) (by decide)) rfl dX11_isSteady_49 rfl ?_
          refine x_any (fun v23 => ?_)
          refine x_aload_n C dX11_isSteady_50 rfl 0 rfl rfl ?_
          refine x_get C (ci := 10) (k := 11) 0 k19 rfl in_X11 (by decide) w_396 rfl dX11_isSteady_51 rfl ?_
          refine x_iload C dX11_isSteady_54 4 rfl rfl ?_
          obtain ⟨_, k24, f25, rfl⟩ := hW 105 _ rfl
          refine x_iald C (v := (f25 (nI k).toNatClampNeg)) 105 k24 (vp_in_nI (by omega) (by decide)) rfl dX11_isSteady_56 rfl ?_
          refine x_any (fun v26 => ?_)
          refine x_icmp_le C (tgt := 62) dX11_isSteady_57 (by decide) rfl (fun c27 => ?_) (fun c27 => ?_)
          · skip
            refine x_iinc C (v := (nI (k + 1))) (lv' := [(4, .int (nI (k + 1))), (0, .ref (a 0)), (1, .int (nI s0)), (2, .int (nI n0)), (3, .int (nI kk6))]) dX11_isSteady_62 4 rfl (nI_add k 1) (by decide) rfl rfl ?_
            refine x_goto C (tgt := 8) dX11_isSteady_65 (by decide) ?_
            refine x_lv (lv1 := [(0, .ref (a 0)), (1, .int (nI s0)), (2, .int (nI n0)), (3, .int (nI kk6)), (4, .int (nI (k + 1)))]) [1, 2, 3, 4, 0] rfl ?_
            exact ih8 (k + 1) trivial (by omega) (by omega)
          · skip
            refine x_iconst C (v := 0) dX11_isSteady_60 (by decide) rfl ?_
            exact x_zret C hr hlk rfl dX11_isSteady_61 ⟨rfl, (Or.inl rfl)⟩
        · skip
          have wi28 := wth_le (a := 0) (b := 7) (j := k) (x17 c18) (by omega) (by decide) (by decide)
          refine x_aload_n C dX11_isSteady_23 rfl 0 rfl rfl ?_
          obtain ⟨_, k29, v30, rfl⟩ := hW 0 _ rfl
          refine x_get C (ci := 10) (k := 11) 0 k29 rfl in_X11 (by decide) w_396 rfl dX11_isSteady_24 rfl ?_
          refine x_iload C dX11_isSteady_27 4 rfl rfl ?_
          obtain ⟨_, k31, f32, rfl⟩ := hW 105 _ rfl
          refine x_iald C (v := (f32 (nI k).toNatClampNeg)) 105 k31 (vp_in_nI (by omega) (by decide)) rfl dX11_isSteady_29 rfl ?_
          refine x_any (fun v33 => ?_)
          refine x_aload_n C dX11_isSteady_30 rfl 0 rfl rfl ?_
          refine x_get C (ci := 10) (k := 18) 0 k29 rfl in_X11 (by decide) w_403 rfl dX11_isSteady_31 rfl ?_
          refine x_iload_n C dX11_isSteady_34 rfl 3 rfl rfl ?_
          obtain ⟨_, k34, f35, rfl⟩ := hW 112 _ rfl
          refine x_iald C (v := (f35 (nI kk6).toNatClampNeg)) 112 k34 (vp_in_nI (by omega) (by decide)) rfl dX11_isSteady_35 rfl ?_
          refine x_any (fun v36 => ?_)
          refine x_icmp_le C (tgt := 62) dX11_isSteady_36 (by decide) rfl (fun c37 => ?_) (fun c37 => ?_)
          · skip
            refine x_iinc C (v := (nI (k + 1))) (lv' := [(4, .int (nI (k + 1))), (0, .ref (a 0)), (1, .int (nI s0)), (2, .int (nI n0)), (3, .int (nI kk6))]) dX11_isSteady_62 4 rfl (nI_add k 1) (by decide) rfl rfl ?_
            refine x_goto C (tgt := 8) dX11_isSteady_65 (by decide) ?_
            refine x_lv (lv1 := [(0, .ref (a 0)), (1, .int (nI s0)), (2, .int (nI n0)), (3, .int (nI kk6)), (4, .int (nI (k + 1)))]) [1, 2, 3, 4, 0] rfl ?_
            exact ih8 (k + 1) trivial (by omega) (by omega)
          · skip
            refine x_goto C (tgt := 60) dX11_isSteady_39 (by decide) ?_
            refine x_iconst C (v := 0) dX11_isSteady_60 (by decide) rfl ?_
            exact x_zret C hr hlk rfl dX11_isSteady_61 ⟨rfl, (Or.inl rfl)⟩
  refine x_lv (lv1 := [(0, .ref (a 0)), (1, .int (nI s0)), (2, .int (nI n0)), (3, .int (nI kk6)), (4, .int 0)]) [2, 3, 4, 1, 0] rfl ?_
  exact loop8 _ 0 trivial (Nat.lt_succ_self _) (by omega)
theorem dX11_hoards_0 : decode cX11_hoards 0 = .ok (.aload_n 0, 1) := by decide +kernel
theorem dX11_hoards_1 : decode cX11_hoards 1 = .ok (.getfield 10, 3) := by decide +kernel
theorem dX11_hoards_4 : decode cX11_hoards 4 = .ok (.iload_n 1, 1) := by decide +kernel
theorem dX11_hoards_5 : decode cX11_hoards 5 = .ok (.iconst 2, 1) := by decide +kernel
theorem dX11_hoards_6 : decode cX11_hoards 6 = .ok (.iconst 5, 1) := by decide +kernel
theorem dX11_hoards_7 : decode cX11_hoards 7 = .ok (.iconst 2, 1) := by decide +kernel
theorem dX11_hoards_8 : decode cX11_hoards 8 = .ok (.invokevirtual 149, 3) := by decide +kernel
theorem dX11_hoards_11 : decode cX11_hoards 11 = .ok (.ifCond .eq 12, 3) := by decide +kernel
theorem dX11_hoards_14 : decode cX11_hoards 14 = .ok (.iload_n 2, 1) := by decide +kernel
theorem dX11_hoards_15 : decode cX11_hoards 15 = .ok (.iconst 0, 1) := by decide +kernel
theorem dX11_hoards_16 : decode cX11_hoards 16 = .ok (.iconst 1, 1) := by decide +kernel
theorem dX11_hoards_17 : decode cX11_hoards 17 = .ok (.invokestatic 102, 3) := by decide +kernel
theorem dX11_hoards_20 : decode cX11_hoards 20 = .ok (.ifCond .ne 5, 3) := by decide +kernel
theorem dX11_hoards_23 : decode cX11_hoards 23 = .ok (.iconst (-1), 1) := by decide +kernel
theorem dX11_hoards_24 : decode cX11_hoards 24 = .ok (.ireturn, 1) := by decide +kernel
theorem dX11_hoards_25 : decode cX11_hoards 25 = .ok (.iconst 1, 1) := by decide +kernel
theorem dX11_hoards_26 : decode cX11_hoards 26 = .ok (.istore_n 3, 1) := by decide +kernel
theorem dX11_hoards_27 : decode cX11_hoards 27 = .ok (.iconst 0, 1) := by decide +kernel
theorem dX11_hoards_28 : decode cX11_hoards 28 = .ok (.istore 4, 2) := by decide +kernel
theorem dX11_hoards_30 : decode cX11_hoards 30 = .ok (.iload 4, 2) := by decide +kernel
theorem dX11_hoards_32 : decode cX11_hoards 32 = .ok (.iload_n 1, 1) := by decide +kernel
theorem dX11_hoards_33 : decode cX11_hoards 33 = .ok (.if_icmp .ge 50, 3) := by decide +kernel
theorem dX11_hoards_36 : decode cX11_hoards 36 = .ok (.aload_n 0, 1) := by decide +kernel
theorem dX11_hoards_37 : decode cX11_hoards 37 = .ok (.getfield 67, 3) := by decide +kernel
theorem dX11_hoards_40 : decode cX11_hoards 40 = .ok (.iload 4, 2) := by decide +kernel
theorem dX11_hoards_42 : decode cX11_hoards 42 = .ok (.aload_n 0, 1) := by decide +kernel
theorem dX11_hoards_43 : decode cX11_hoards 43 = .ok (.getfield 10, 3) := by decide +kernel
theorem dX11_hoards_46 : decode cX11_hoards 46 = .ok (.iconst 2, 1) := by decide +kernel
theorem dX11_hoards_47 : decode cX11_hoards 47 = .ok (.iload 4, 2) := by decide +kernel
theorem dX11_hoards_49 : decode cX11_hoards 49 = .ok (.imul, 1) := by decide +kernel
theorem dX11_hoards_50 : decode cX11_hoards 50 = .ok (.invokevirtual 339, 3) := by decide +kernel
theorem dX11_hoards_53 : decode cX11_hoards 53 = .ok (.iastore, 1) := by decide +kernel
theorem dX11_hoards_54 : decode cX11_hoards 54 = .ok (.iload_n 3, 1) := by decide +kernel
theorem dX11_hoards_55 : decode cX11_hoards 55 = .ok (.ifCond .eq 20, 3) := by decide +kernel
theorem dX11_hoards_58 : decode cX11_hoards 58 = .ok (.aload_n 0, 1) := by decide +kernel
theorem dX11_hoards_59 : decode cX11_hoards 59 = .ok (.getfield 67, 3) := by decide +kernel
theorem dX11_hoards_62 : decode cX11_hoards 62 = .ok (.iload 4, 2) := by decide +kernel
theorem dX11_hoards_64 : decode cX11_hoards 64 = .ok (.iaload, 1) := by decide +kernel
theorem dX11_hoards_65 : decode cX11_hoards 65 = .ok (.sipush 999, 3) := by decide +kernel
theorem dX11_hoards_68 : decode cX11_hoards 68 = .ok (.if_icmp .gt 7, 3) := by decide +kernel
theorem dX11_hoards_71 : decode cX11_hoards 71 = .ok (.iconst 1, 1) := by decide +kernel
theorem dX11_hoards_72 : decode cX11_hoards 72 = .ok (.goto 4, 3) := by decide +kernel
theorem dX11_hoards_75 : decode cX11_hoards 75 = .ok (.iconst 0, 1) := by decide +kernel
theorem dX11_hoards_76 : decode cX11_hoards 76 = .ok (.istore_n 3, 1) := by decide +kernel
theorem dX11_hoards_77 : decode cX11_hoards 77 = .ok (.iinc 4 1, 3) := by decide +kernel
theorem dX11_hoards_80 : decode cX11_hoards 80 = .ok (.goto (-50), 3) := by decide +kernel
theorem dX11_hoards_83 : decode cX11_hoards 83 = .ok (.aload_n 0, 1) := by decide +kernel
theorem dX11_hoards_84 : decode cX11_hoards 84 = .ok (.getfield 10, 3) := by decide +kernel
theorem dX11_hoards_87 : decode cX11_hoards 87 = .ok (.iconst 0, 1) := by decide +kernel
theorem dX11_hoards_88 : decode cX11_hoards 88 = .ok (.putfield 142, 3) := by decide +kernel
theorem dX11_hoards_91 : decode cX11_hoards 91 = .ok (.iload_n 3, 1) := by decide +kernel
theorem dX11_hoards_92 : decode cX11_hoards 92 = .ok (.ifCond .ne 6, 3) := by decide +kernel
theorem dX11_hoards_95 : decode cX11_hoards 95 = .ok (.bipush (-3), 2) := by decide +kernel
theorem dX11_hoards_97 : decode cX11_hoards 97 = .ok (.ireturn, 1) := by decide +kernel
theorem dX11_hoards_98 : decode cX11_hoards 98 = .ok (.iconst 1, 1) := by decide +kernel
theorem dX11_hoards_99 : decode cX11_hoards 99 = .ok (.istore 4, 2) := by decide +kernel
theorem dX11_hoards_101 : decode cX11_hoards 101 = .ok (.iload 4, 2) := by decide +kernel
theorem dX11_hoards_103 : decode cX11_hoards 103 = .ok (.iload_n 1, 1) := by decide +kernel
theorem dX11_hoards_104 : decode cX11_hoards 104 = .ok (.if_icmp .gt 29, 3) := by decide +kernel
theorem dX11_hoards_107 : decode cX11_hoards 107 = .ok (.aload_n 0, 1) := by decide +kernel
theorem dX11_hoards_108 : decode cX11_hoards 108 = .ok (.getfield 89, 3) := by decide +kernel
theorem dX11_hoards_111 : decode cX11_hoards 111 = .ok (.iload 4, 2) := by decide +kernel
theorem dX11_hoards_113 : decode cX11_hoards 113 = .ok (.aload_n 0, 1) := by decide +kernel
theorem dX11_hoards_114 : decode cX11_hoards 114 = .ok (.getfield 39, 3) := by decide +kernel
theorem dX11_hoards_117 : decode cX11_hoards 117 = .ok (.aload_n 0, 1) := by decide +kernel
theorem dX11_hoards_118 : decode cX11_hoards 118 = .ok (.getfield 22, 3) := by decide +kernel
theorem dX11_hoards_121 : decode cX11_hoards 121 = .ok (.iload 4, 2) := by decide +kernel
theorem dX11_hoards_123 : decode cX11_hoards 123 = .ok (.invokevirtual 342, 3) := by decide +kernel
theorem dX11_hoards_126 : decode cX11_hoards 126 = .ok (.iastore, 1) := by decide +kernel
theorem dX11_hoards_127 : decode cX11_hoards 127 = .ok (.iinc 4 1, 3) := by decide +kernel
theorem dX11_hoards_130 : decode cX11_hoards 130 = .ok (.goto (-29), 3) := by decide +kernel
theorem dX11_hoards_133 : decode cX11_hoards 133 = .ok (.iconst 0, 1) := by decide +kernel
theorem dX11_hoards_134 : decode cX11_hoards 134 = .ok (.istore 4, 2) := by decide +kernel
theorem dX11_hoards_136 : decode cX11_hoards 136 = .ok (.bipush (-2), 2) := by decide +kernel
theorem dX11_hoards_138 : decode cX11_hoards 138 = .ok (.istore 5, 2) := by decide +kernel
theorem dX11_hoards_140 : decode cX11_hoards 140 = .ok (.iconst 1, 1) := by decide +kernel
theorem dX11_hoards_141 : decode cX11_hoards 141 = .ok (.iload_n 1, 1) := by decide +kernel
theorem dX11_hoards_142 : decode cX11_hoards 142 = .ok (.ishl, 1) := by decide +kernel
theorem dX11_hoards_143 : decode cX11_hoards 143 = .ok (.iconst 1, 1) := by decide +kernel
theorem dX11_hoards_144 : decode cX11_hoards 144 = .ok (.isub, 1) := by decide +kernel
theorem dX11_hoards_145 : decode cX11_hoards 145 = .ok (.istore 6, 2) := by decide +kernel
theorem dX11_hoards_147 : decode cX11_hoards 147 = .ok (.iload 6, 2) := by decide +kernel
theorem dX11_hoards_149 : decode cX11_hoards 149 = .ok (.ifCond .lt 26, 3) := by decide +kernel
theorem dX11_hoards_152 : decode cX11_hoards 152 = .ok (.aload_n 0, 1) := by decide +kernel
theorem dX11_hoards_153 : decode cX11_hoards 153 = .ok (.iload 6, 2) := by decide +kernel
theorem dX11_hoards_155 : decode cX11_hoards 155 = .ok (.iload_n 1, 1) := by decide +kernel
theorem dX11_hoards_156 : decode cX11_hoards 156 = .ok (.invokevirtual 346, 3) := by decide +kernel
theorem dX11_hoards_159 : decode cX11_hoards 159 = .ok (.ifCond .eq 10, 3) := by decide +kernel
theorem dX11_hoards_162 : decode cX11_hoards 162 = .ok (.iinc 4 1, 3) := by decide +kernel
theorem dX11_hoards_165 : decode cX11_hoards 165 = .ok (.iload 6, 2) := by decide +kernel
theorem dX11_hoards_167 : decode cX11_hoards 167 = .ok (.istore 5, 2) := by decide +kernel
theorem dX11_hoards_169 : decode cX11_hoards 169 = .ok (.iinc 6 (-1), 3) := by decide +kernel
theorem dX11_hoards_172 : decode cX11_hoards 172 = .ok (.goto (-25), 3) := by decide +kernel
theorem dX11_hoards_175 : decode cX11_hoards 175 = .ok (.iload_n 2, 1) := by decide +kernel
theorem dX11_hoards_176 : decode cX11_hoards 176 = .ok (.ifCond .ne 8, 3) := by decide +kernel
theorem dX11_hoards_179 : decode cX11_hoards 179 = .ok (.iload 4, 2) := by decide +kernel
theorem dX11_hoards_181 : decode cX11_hoards 181 = .ok (.goto 5, 3) := by decide +kernel
theorem dX11_hoards_184 : decode cX11_hoards 184 = .ok (.iload 5, 2) := by decide +kernel
theorem dX11_hoards_186 : decode cX11_hoards 186 = .ok (.ireturn, 1) := by decide +kernel
set_option maxRecDepth 20000 in
set_option maxHeartbeats 4000000 in
theorem c_hoards (E : xE) (l : Launch) (a : Nat → Nat) (ws : va_W) (hW : WX (okX E a) ws) (p0 : Int32) (p1 : Int32) : xI E l yX11_hoards cX11_hoards 7 (some .int) 8 [.ref (a 0), .int p0, .int p1] ws (fun r w => WX (okX E a) w ∧ keeps ws w (fun q => ¬ (q = 0 ∨ q = 6 ∨ q = 9 ∨ q = 28 ∨ q = 31))) := by
  refine xI_start (lv := [(0, .ref (a 0)), (1, .int p0), (2, .int p1)]) RX11 (by decide) rfl (Nat.le_of_ble_eq_true rfl) rfl (fun p e s m below meth c A C hr hlk => ?_)
  have kp0 : keeps ws ws (fun q => ¬ (q = 0 ∨ q = 6 ∨ q = 9 ∨ q = 28 ∨ q = 31)) := keeps_rf
  refine x_aload_n C dX11_hoards_0 rfl 0 rfl rfl ?_
  obtain ⟨_, k1, v2, rfl⟩ := hW 0 _ rfl
  refine x_get C (ci := 10) (k := 0) 0 k1 rfl in_X11 (by decide) w_385 rfl dX11_hoards_1 rfl ?_
  refine x_iload_n C dX11_hoards_4 rfl 1 rfl rfl ?_
  refine x_iconst C (v := 2) dX11_hoards_5 (by decide) rfl ?_
  refine x_iconst C (v := 5) dX11_hoards_6 (by decide) rfl ?_
  refine x_iconst C (v := 2) dX11_hoards_7 (by decide) rfl ?_
  obtain ⟨_, k3, n4, v6, v7, v8, bn5, rfl⟩ := hW 1 _ rfl
  refine x_vi C (As := [.int p0, .int 2, .int 5, .int 2]) (rest := []) (c_holds E l a ws hW p0 (2 : Int32) (5 : Int32) (2 : Int32)) mf_X8_holds w_507 1 k3 rfl rfl rfl (Nat.le_of_ble_eq_true rfl) ⟨(Nat.le_of_ble_eq_true rfl), (Nat.le_of_ble_eq_true rfl)⟩ ⟨(Nat.le_of_ble_eq_true rfl), (Nat.le_of_ble_eq_true rfl)⟩ dX11_hoards_8 rfl (fun r10 w11 h9 => ?_)
  obtain ⟨hW12, zb13, x14⟩ := h9
  refine x_ws hW12 ?_
  refine x_if_eq C (tgt := 23) dX11_hoards_11 (by decide) rfl (fun c15 => ?_) (fun c15 => ?_)
  · skip
    refine x_iconst C (v := (-1)) dX11_hoards_23 (by decide) rfl ?_
    exact x_zret C hr hlk rfl dX11_hoards_24 ⟨hW, kp0⟩
  · skip
    obtain ⟨j16, hl17, hh18, ej19⟩ := w_nat (a := 2) (b := 5) (by decide) (by decide) (x14 c15)
    subst ej19
    refine x_iload_n C dX11_hoards_14 rfl 2 rfl rfl ?_
    refine x_iconst C (v := 0) dX11_hoards_15 (by decide) rfl ?_
    refine x_iconst C (v := 1) dX11_hoards_16 (by decide) rfl ?_
    refine x_si C (As := [.int p1, .int 0, .int 1]) (rest := []) (c_isWithin E l a ws hW p1 (0 : Int32) (1 : Int32)) mf_X11_isWithin w_462 rfl rfl (Nat.le_of_ble_eq_true rfl) ⟨(Nat.le_of_ble_eq_true rfl), (Nat.le_of_ble_eq_true rfl)⟩ ⟨(Nat.le_of_ble_eq_true rfl), (Nat.le_of_ble_eq_true rfl)⟩ dX11_hoards_17 rfl (fun r21 w22 h20 => ?_)
    obtain ⟨hW23, zb24, x25⟩ := h20
    refine x_ws hW23 ?_
    refine x_if_ne C (tgt := 25) dX11_hoards_20 (by decide) rfl (fun c26 => ?_) (fun c26 => ?_)
    · skip
      obtain ⟨j27, hl28, hh29, ej30⟩ := w_nat (a := 0) (b := 1) (by decide) (by decide) (x25 c26)
      subst ej30
      refine x_iconst C (v := 1) dX11_hoards_25 (by decide) rfl ?_
      refine x_istore_n C (lv' := [(3, .int 1), (0, .ref (a 0)), (1, .int (nI j16)), (2, .int (nI j27))]) dX11_hoards_26 rfl (by decide) rfl rfl ?_
      refine x_iconst C (v := 0) dX11_hoards_27 (by decide) rfl ?_
      refine x_istore C (lv' := [(4, .int 0), (3, .int 1), (0, .ref (a 0)), (1, .int (nI j16)), (2, .int (nI j27))]) dX11_hoards_28 (by decide) rfl rfl ?_
      have loop30 : ∀ (fu30 : Nat) (z30_3 : Int32) (k : Nat) (wl30 : va_W), WX (okX E a) wl30 → 5 - k < fu30 → k ≤ 5 → keeps ws wl30 (fun q => ¬ (q = 0 ∨ q = 6 ∨ q = 9 ∨ q = 28 ∨ q = 31)) → X E p l e (xRm 8 0 0) s m ([.ref (a 0), .int (nI j16), .int (nI j27)] : List Value).toArray below meth c A 7 0 0 (MQ below (va_Qi (fun r w => WX (okX E a) w ∧ keeps ws w (fun q => ¬ (q = 0 ∨ q = 6 ∨ q = 9 ∨ q = 28 ∨ q = 31))) (xB E A) A) ([.ref (a 0), .int (nI j16), .int (nI j27)] : List Value).toArray s 0 0 A) wl30 30 [(0, .ref (a 0)), (1, .int (nI j16)), (2, .int (nI j27)), (3, .int z30_3), (4, .int (nI k))] [] := by
        intro fu30
        induction fu30 with
        | zero => intro z30_3 k wl30 _ q; omega
        | succ fu30 ih30 =>
          intro z30_3 k wl30 hWl30 me30 iv30_0 kq30
          refine x_iload C dX11_hoards_30 4 rfl rfl ?_
          refine x_iload_n C dX11_hoards_32 rfl 1 rfl rfl ?_
          refine x_icmp_ge C (tgt := 83) dX11_hoards_33 (by decide) rfl (fun c31 => ?_) (fun c31 => ?_)
          · skip
            have nf32 := nI_le' (a := j16) (b := k) c31 (by omega) (by omega)
            refine x_aload_n C dX11_hoards_83 rfl 0 rfl rfl ?_
            obtain ⟨_, k33, v34, rfl⟩ := hWl30 0 _ rfl
            refine x_get C (ci := 10) (k := 0) 0 k33 rfl in_X11 (by decide) w_385 rfl dX11_hoards_84 rfl ?_
            refine x_iconst C (v := 0) dX11_hoards_87 (by decide) rfl ?_
            obtain ⟨_, k35, n36, v38, v39, v40, bn37, rfl⟩ := hWl30 1 _ rfl
            obtain ⟨w41, hw42⟩ : ∃ w : va_W, w = List.set wl30 1 (ob (a 1) 7 [.ref (a 2), .int 0, .int v38, .int v39, .int v40]) := ⟨_, rfl⟩
            refine x_put C (ci := 7) (k := 1) (ty := .int) 1 k35 rfl in_X8 tyX8 tyX8_ok nmX8 (by decide) w_38 rfl rfl rfl rfl (Nat.le_of_ble_eq_true rfl) hw42.symm dX11_hoards_88 rfl ?_
            have hW43 : WX (okX E a) w41 := by rw [hw42]; exact hWl30.set (k := 1) rfl ⟨0, v38, v39, v40, by omega, rfl⟩
            have k44 : w41[0]? = some (ob (a 0) 10 [.ref (a 1), .ref (a 3), .ref (a 5), .ref (a 27), .ref (a 49), .int v34, .ref (a 71), .ref (a 79), .ref (a 87), .ref (a 92), .ref (a 103), .ref (a 105), .ref (a 106), .ref (a 107), .ref (a 108), .ref (a 109), .ref (a 110), .ref (a 111), .ref (a 112)]) := by rw [hw42]; exact set_ne k33 (by decide)
            have k45 : w41[1]? = some (ob (a 1) 7 [.ref (a 2), .int 0, .int v38, .int v39, .int v40]) := by rw [hw42]; exact set_eq k35
            have kp46 := keeps_set kq30 hw42 (by first | exact rfl | decide | omega | (dsimp only; omega))
            refine x_iload_n C dX11_hoards_91 rfl 3 rfl rfl ?_
            refine x_if_ne C (tgt := 98) dX11_hoards_92 (by decide) rfl (fun c47 => ?_) (fun c47 => ?_)
            · skip
              refine x_iconst C (v := 1) dX11_hoards_98 (by decide) rfl ?_
              refine x_istore C (lv' := [(4, .int 1), (0, .ref (a 0)), (1, .int (nI j16)), (2, .int (nI j27)), (3, .int z30_3)]) dX11_hoards_99 (by decide) rfl rfl ?_
              have loop101 : ∀ (fu101 : Nat) (k : Nat) (wl101 : va_W), WX (okX E a) wl101 → 6 - k < fu101 → 1 ≤ k ∧ k ≤ 6 → keeps ws wl101 (fun q => ¬ (q = 0 ∨ q = 6 ∨ q = 9 ∨ q = 28 ∨ q = 31)) → X E p l e (xRm 8 0 0) s m ([.ref (a 0), .int (nI j16), .int (nI j27)] : List Value).toArray below meth c A 7 0 0 (MQ below (va_Qi (fun r w => WX (okX E a) w ∧ keeps ws w (fun q => ¬ (q = 0 ∨ q = 6 ∨ q = 9 ∨ q = 28 ∨ q = 31))) (xB E A) A) ([.ref (a 0), .int (nI j16), .int (nI j27)] : List Value).toArray s 0 0 A) wl101 101 [(0, .ref (a 0)), (1, .int (nI j16)), (2, .int (nI j27)), (3, .int z30_3), (4, .int (nI k))] [] := by
                intro fu101
                induction fu101 with
                | zero => intro k wl101 _ q; omega
                | succ fu101 ih101 =>
                  intro k wl101 hWl101 me101 iv101_0 kq101
                  refine x_iload C dX11_hoards_101 4 rfl rfl ?_
                  refine x_iload_n C dX11_hoards_103 rfl 1 rfl rfl ?_
                  refine x_icmp_gt C (tgt := 133) dX11_hoards_104 (by decide) rfl (fun c48 => ?_) (fun c48 => ?_)
                  · skip
                    have nf49 := nI_lt' (a := j16) (b := k) c48 (by omega) (by omega)
                    refine x_iconst C (v := 0) dX11_hoards_133 (by decide) rfl ?_
                    refine x_istore C (lv' := [(4, .int 0), (0, .ref (a 0)), (1, .int (nI j16)), (2, .int (nI j27)), (3, .int z30_3)]) dX11_hoards_134 (by decide) rfl rfl ?_
                    refine x_bipush C (v := (-2)) dX11_hoards_136 (by decide) rfl ?_
                    refine x_istore C (lv' := [(5, .int (-2)), (4, .int 0), (0, .ref (a 0)), (1, .int (nI j16)), (2, .int (nI j27)), (3, .int z30_3)]) dX11_hoards_138 (by decide) rfl rfl ?_
                    refine x_iconst C (v := 1) dX11_hoards_140 (by decide) rfl ?_
                    refine x_iload_n C dX11_hoards_141 rfl 3 rfl rfl ?_
                    obtain ⟨z50, hz51, ez52⟩ := sh_five (n := j16) (by omega)
                    refine x_ishl C (v := (nI z50)) dX11_hoards_142 ez52 rfl ?_
                    refine x_iconst C (v := 1) dX11_hoards_143 (by decide) rfl ?_
                    refine x_isub C (v := (nI (z50 - 1))) dX11_hoards_144 (pk_sub (a := z50) (b := 1) (by omega)) rfl ?_
                    refine x_istore C (lv' := [(6, .int (nI (z50 - 1))), (5, .int (-2)), (4, .int 0), (0, .ref (a 0)), (1, .int (nI j16)), (2, .int (nI j27)), (3, .int z30_3)]) dX11_hoards_145 (by decide) rfl rfl ?_
                    have loop147 : ∀ (fu147 : Nat) (z147_4 : Int32) (z147_5 : Int32) (b : Nat), True → b < fu147 → b ≤ 31 → X E p l e (xRm 8 0 0) s m ([.ref (a 0), .int (nI j16), .int (nI j27)] : List Value).toArray below meth c A 7 0 0 (MQ below (va_Qi (fun r w => WX (okX E a) w ∧ keeps ws w (fun q => ¬ (q = 0 ∨ q = 6 ∨ q = 9 ∨ q = 28 ∨ q = 31))) (xB E A) A) ([.ref (a 0), .int (nI j16), .int (nI j27)] : List Value).toArray s 0 0 A) wl101 147 [(0, .ref (a 0)), (1, .int (nI j16)), (2, .int (nI j27)), (3, .int z30_3), (4, .int z147_4), (5, .int z147_5), (6, .int (nI b))] [] := by
                      intro fu147
                      induction fu147 with
                      | zero => intro z147_4 z147_5 b _ q; omega
                      | succ fu147 ih147 =>
                        intro z147_4 z147_5 b _ me147 iv147_0
                        refine x_iload C dX11_hoards_147 6 rfl rfl ?_
                        refine x_if_lt C (tgt := 175) dX11_hoards_149 (by decide) rfl (fun c53 => ?_) (fun c53 => ?_)
                        · skip
                          have nf54 := nI_lt' (a := b) (b := 0) c53 (by omega) (by omega)
                          refine x_iload_n C dX11_hoards_175 rfl 2 rfl rfl ?_
                          refine x_if_ne C (tgt := 184) dX11_hoards_176 (by decide) rfl (fun c55 => ?_) (fun c55 => ?_)
                          · skip
                            have nf56 : ¬ j27 = 0 := fun q => c55 (congrArg nI q)
                            refine x_iload C dX11_hoards_184 5 rfl rfl ?_
                            exact x_zret C hr hlk rfl dX11_hoards_186 ⟨hWl101, kq101⟩
                          · skip
                            have nf57 : j27 = 0 := (nI_eq (by omega) (by omega)).mp c55
                            refine x_iload C dX11_hoards_179 4 rfl rfl ?_
                            refine x_goto C (tgt := 186) dX11_hoards_181 (by decide) ?_
                            exact x_zret C hr hlk rfl dX11_hoards_186 ⟨hWl101, kq101⟩
                        · skip
                          have nf58 := nI_nlt' (a := b) (b := 0) c53 (by omega) (by omega)
                          refine x_aload_n C dX11_hoards_152 rfl 0 rfl rfl ?_
                          refine x_iload C dX11_hoards_153 6 rfl rfl ?_
                          refine x_iload_n C dX11_hoards_155 rfl 1 rfl rfl ?_
                          obtain ⟨_, k59, v60, rfl⟩ := hWl101 0 _ rfl
                          refine x_vi C (As := [.int (nI b), .int (nI j16)]) (rest := []) (c_isSteady E l a wl101 hWl101 b j16 (by omega) (by omega)) mf_X11_isSteady w_1010 0 k59 rfl rfl rfl (Nat.le_of_ble_eq_true rfl) ⟨(Nat.le_of_ble_eq_true rfl), (Nat.le_of_ble_eq_true rfl)⟩ ⟨(Nat.le_of_ble_eq_true rfl), (Nat.le_of_ble_eq_true rfl)⟩ dX11_hoards_156 rfl (fun r62 w63 h61 => ?_)
                          obtain ⟨hW64, zb65⟩ := h61
                          refine x_ws hW64 ?_
                          refine x_if_eq C (tgt := 169) dX11_hoards_159 (by decide) rfl (fun c66 => ?_) (fun c66 => ?_)
                          · skip
                            by_cases hz67 : b = 0
                            · refine x_iinc C (v := -1) (lv' := [(6, .int (-1)), (0, .ref (a 0)), (1, .int (nI j16)), (2, .int (nI j27)), (3, .int z30_3), (4, .int z147_4), (5, .int z147_5)]) dX11_hoards_169 6 rfl (by rw [hz67]; decide) (by decide) rfl rfl ?_
                              refine x_goto C (tgt := 147) dX11_hoards_172 (by decide) ?_
                              refine x_iload C dX11_hoards_147 0 rfl rfl ?_
                              refine x_if_lt C (tgt := 175) dX11_hoards_149 (by decide) rfl (fun _ => ?_) (fun h => absurd h (by decide))
                              refine x_iload_n C dX11_hoards_175 rfl 3 rfl rfl ?_
                              refine x_if_ne C (tgt := 184) dX11_hoards_176 (by decide) rfl (fun c68 => ?_) (fun c68 => ?_)
                              · skip
                                have nf69 : ¬ j27 = 0 := fun q => c68 (congrArg nI q)
                                refine x_iload C dX11_hoards_184 6 rfl rfl ?_
                                exact x_zret C hr hlk rfl dX11_hoards_186 ⟨hWl101, kq101⟩
                              · skip
                                have nf70 : j27 = 0 := (nI_eq (by omega) (by omega)).mp c68
                                refine x_iload C dX11_hoards_179 5 rfl rfl ?_
                                refine x_goto C (tgt := 186) dX11_hoards_181 (by decide) ?_
                                exact x_zret C hr hlk rfl dX11_hoards_186 ⟨hWl101, kq101⟩
                            · refine x_iinc C (v := nI (b - 1)) (lv' := [(6, .int (nI (b - 1))), (0, .ref (a 0)), (1, .int (nI j16)), (2, .int (nI j27)), (3, .int z30_3), (4, .int z147_4), (5, .int z147_5)]) dX11_hoards_169 6 rfl (dec_n (by omega)) (by decide) rfl rfl ?_
                              refine x_goto C (tgt := 147) dX11_hoards_172 (by decide) ?_
                              refine x_lv (lv1 := [(0, .ref (a 0)), (1, .int (nI j16)), (2, .int (nI j27)), (3, .int z30_3), (4, .int z147_4), (5, .int z147_5), (6, .int (nI (b - 1)))]) [1, 2, 3, 4, 5, 6, 0] rfl ?_
                              exact ih147 z147_4 z147_5 (b - 1) trivial (by omega) (by omega)
                          · skip
                            refine x_iinc C (v := (z147_4 + 1)) (lv' := [(4, .int (z147_4 + 1)), (0, .ref (a 0)), (1, .int (nI j16)), (2, .int (nI j27)), (3, .int z30_3), (5, .int z147_5), (6, .int (nI b))]) dX11_hoards_162 4 rfl rfl (by decide) rfl rfl ?_
                            refine x_iload C dX11_hoards_165 6 rfl rfl ?_
                            refine x_istore C (lv' := [(5, .int (nI b)), (4, .int (z147_4 + 1)), (0, .ref (a 0)), (1, .int (nI j16)), (2, .int (nI j27)), (3, .int z30_3), (6, .int (nI b))]) dX11_hoards_167 (by decide) rfl rfl ?_
                            by_cases hz71 : b = 0
                            · refine x_iinc C (v := -1) (lv' := [(6, .int (-1)), (5, .int (nI b)), (4, .int (z147_4 + 1)), (0, .ref (a 0)), (1, .int (nI j16)), (2, .int (nI j27)), (3, .int z30_3)]) dX11_hoards_169 6 rfl (by rw [hz71]; decide) (by decide) rfl rfl ?_
                              refine x_goto C (tgt := 147) dX11_hoards_172 (by decide) ?_
                              refine x_iload C dX11_hoards_147 0 rfl rfl ?_
                              refine x_if_lt C (tgt := 175) dX11_hoards_149 (by decide) rfl (fun _ => ?_) (fun h => absurd h (by decide))
                              refine x_iload_n C dX11_hoards_175 rfl 5 rfl rfl ?_
                              refine x_if_ne C (tgt := 184) dX11_hoards_176 (by decide) rfl (fun c72 => ?_) (fun c72 => ?_)
                              · skip
                                have nf73 : ¬ j27 = 0 := fun q => c72 (congrArg nI q)
                                refine x_iload C dX11_hoards_184 1 rfl rfl ?_
                                exact x_zret C hr hlk rfl dX11_hoards_186 ⟨hWl101, kq101⟩
                              · skip
                                have nf74 : j27 = 0 := (nI_eq (by omega) (by omega)).mp c72
                                refine x_iload C dX11_hoards_179 2 rfl rfl ?_
                                refine x_goto C (tgt := 186) dX11_hoards_181 (by decide) ?_
                                exact x_zret C hr hlk rfl dX11_hoards_186 ⟨hWl101, kq101⟩
                            · refine x_iinc C (v := nI (b - 1)) (lv' := [(6, .int (nI (b - 1))), (5, .int (nI b)), (4, .int (z147_4 + 1)), (0, .ref (a 0)), (1, .int (nI j16)), (2, .int (nI j27)), (3, .int z30_3)]) dX11_hoards_169 6 rfl (dec_n (by omega)) (by decide) rfl rfl ?_
                              refine x_goto C (tgt := 147) dX11_hoards_172 (by decide) ?_
                              refine x_lv (lv1 := [(0, .ref (a 0)), (1, .int (nI j16)), (2, .int (nI j27)), (3, .int z30_3), (4, .int (z147_4 + 1)), (5, .int (nI b)), (6, .int (nI (b - 1)))]) [3, 4, 5, 6, 2, 1, 0] rfl ?_
                              exact ih147 ((z147_4 + 1)) ((nI b)) (b - 1) trivial (by omega) (by omega)
                    refine x_lv (lv1 := [(0, .ref (a 0)), (1, .int (nI j16)), (2, .int (nI j27)), (3, .int z30_3), (4, .int 0), (5, .int (-2)), (6, .int (nI (z50 - 1)))]) [3, 4, 5, 6, 2, 1, 0] rfl ?_
                    exact loop147 _ (0 : Int32) ((-2) : Int32) (z50 - 1) trivial (Nat.lt_succ_self _) (by omega)
                  · skip
                    have nf75 := nI_nlt' (a := j16) (b := k) c48 (by omega) (by omega)
                    refine x_aload_n C dX11_hoards_107 rfl 0 rfl rfl ?_
                    obtain ⟨_, k76, v77, rfl⟩ := hWl101 0 _ rfl
                    refine x_get C (ci := 10) (k := 18) 0 k76 rfl in_X11 (by decide) w_403 rfl dX11_hoards_108 rfl ?_
                    refine x_iload C dX11_hoards_111 4 rfl rfl ?_
                    refine x_aload_n C dX11_hoards_113 rfl 0 rfl rfl ?_
                    refine x_get C (ci := 10) (k := 6) 0 k76 rfl in_X11 (by decide) w_391 rfl dX11_hoards_114 rfl ?_
                    refine x_aload_n C dX11_hoards_117 rfl 0 rfl rfl ?_
                    refine x_get C (ci := 10) (k := 2) 0 k76 rfl in_X11 (by decide) w_387 rfl dX11_hoards_118 rfl ?_
                    refine x_iload C dX11_hoards_121 4 rfl rfl ?_
                    obtain ⟨_, k78, v79, n80, n82, bn81, bn83, rfl⟩ := hWl101 71 _ rfl
                    refine x_vi C (As := [.ref (a 5), .int (nI k)]) (rest := [.int (nI k), .ref (a 112)]) (c_ofSellers E l a wl101 hWl101 5 (Or.inl rfl) ((nI k))) mf_X3_ofSellers w_1006 71 k78 rfl rfl rfl (Nat.le_of_ble_eq_true rfl) ⟨(Nat.le_of_ble_eq_true rfl), (Nat.le_of_ble_eq_true rfl)⟩ ⟨(Nat.le_of_ble_eq_true rfl), (Nat.le_of_ble_eq_true rfl)⟩ dX11_hoards_123 rfl (fun r85 w86 h84 => ?_)
                    obtain ⟨hW87, kq88⟩ := h84
                    have k89 : w86[0]? = some (ob (a 0) 10 [.ref (a 1), .ref (a 3), .ref (a 5), .ref (a 27), .ref (a 49), .int v77, .ref (a 71), .ref (a 79), .ref (a 87), .ref (a 92), .ref (a 103), .ref (a 105), .ref (a 106), .ref (a 107), .ref (a 108), .ref (a 109), .ref (a 110), .ref (a 111), .ref (a 112)]) := keeps_at kq88 k76 (by first | decide | omega | (dsimp only; omega))
                    have kp90 := keeps_tr kq101 kq88 (fun q hq => by first | omega | (dsimp only at *; omega))
                    obtain ⟨_, k91, f92, rfl⟩ := hW87 112 _ rfl
                    obtain ⟨w93, hw94⟩ : ∃ w : va_W, w = List.set w86 112 (iA E (a 112) 7 (upd f92 (nI k).toNatClampNeg r85)) := ⟨_, rfl⟩
                    refine x_iast C 112 k91 (vp_in_nI (by omega) (by decide)) hw94.symm dX11_hoards_126 rfl ?_
                    have hW95 : WX (okX E a) w93 := by rw [hw94]; exact hW87.set (k := 112) rfl ⟨_, rfl⟩
                    have k96 : w93[0]? = some (ob (a 0) 10 [.ref (a 1), .ref (a 3), .ref (a 5), .ref (a 27), .ref (a 49), .int v77, .ref (a 71), .ref (a 79), .ref (a 87), .ref (a 92), .ref (a 103), .ref (a 105), .ref (a 106), .ref (a 107), .ref (a 108), .ref (a 109), .ref (a 110), .ref (a 111), .ref (a 112)]) := by rw [hw94]; exact set_ne k89 (by decide)
                    have k97 : w93[112]? = some (iA E (a 112) 7 (upd f92 (nI k).toNatClampNeg r85)) := by rw [hw94]; exact set_eq k91
                    have kp98 := keeps_set kp90 hw94 (by first | exact rfl | decide | omega | (dsimp only; omega))
                    refine x_iinc C (v := (nI (k + 1))) (lv' := [(4, .int (nI (k + 1))), (0, .ref (a 0)), (1, .int (nI j16)), (2, .int (nI j27)), (3, .int z30_3)]) dX11_hoards_127 4 rfl (nI_add k 1) (by decide) rfl rfl ?_
                    refine x_goto C (tgt := 101) dX11_hoards_130 (by decide) ?_
                    refine x_lv (lv1 := [(0, .ref (a 0)), (1, .int (nI j16)), (2, .int (nI j27)), (3, .int z30_3), (4, .int (nI (k + 1)))]) [1, 2, 3, 4, 0] rfl ?_
                    exact ih101 (k + 1) w93 hW95 (by omega) (by omega) kp98
              refine x_lv (lv1 := [(0, .ref (a 0)), (1, .int (nI j16)), (2, .int (nI j27)), (3, .int z30_3), (4, .int 1)]) [1, 2, 3, 4, 0] rfl ?_
              exact loop101 _ 1 w41 hW43 (Nat.lt_succ_self _) (by omega) kp46
            · skip
              refine x_bipush C (v := (-3)) dX11_hoards_95 (by decide) rfl ?_
              exact x_zret C hr hlk rfl dX11_hoards_97 ⟨hW43, kp46⟩
          · skip
            have nf99 := nI_nle' (a := j16) (b := k) c31 (by omega) (by omega)
            refine x_aload_n C dX11_hoards_36 rfl 0 rfl rfl ?_
            obtain ⟨_, k100, v101, rfl⟩ := hWl30 0 _ rfl
            refine x_get C (ci := 10) (k := 11) 0 k100 rfl in_X11 (by decide) w_396 rfl dX11_hoards_37 rfl ?_
            refine x_iload C dX11_hoards_40 4 rfl rfl ?_
            refine x_aload_n C dX11_hoards_42 rfl 0 rfl rfl ?_
            refine x_get C (ci := 10) (k := 0) 0 k100 rfl in_X11 (by decide) w_385 rfl dX11_hoards_43 rfl ?_
            refine x_iconst C (v := 2) dX11_hoards_46 (by decide) rfl ?_
            refine x_iload C dX11_hoards_47 4 rfl rfl ?_
            refine x_imul C (v := (nI (2 * k))) dX11_hoards_49 (pk_mul 2 k) rfl ?_
            obtain ⟨_, k102, n103, v105, v106, v107, bn104, rfl⟩ := hWl30 1 _ rfl
            refine x_vi C (As := [.int (nI (2 * k))]) (rest := [.int (nI k), .ref (a 105)]) (c_pairAt E l a wl30 hWl30 ((nI (2 * k)))) mf_X8_pairAt w_1001 1 k102 rfl rfl rfl (Nat.le_of_ble_eq_true rfl) ⟨(Nat.le_of_ble_eq_true rfl), (Nat.le_of_ble_eq_true rfl)⟩ ⟨(Nat.le_of_ble_eq_true rfl), (Nat.le_of_ble_eq_true rfl)⟩ dX11_hoards_50 rfl (fun r109 w110 h108 => ?_)
            have hW111 := h108
            refine x_ws hW111 ?_
            obtain ⟨_, k112, f113, rfl⟩ := hWl30 105 _ rfl
            obtain ⟨w114, hw115⟩ : ∃ w : va_W, w = List.set wl30 105 (iA E (a 105) 48 (upd f113 (nI k).toNatClampNeg r109)) := ⟨_, rfl⟩
            refine x_iast C 105 k112 (vp_in_nI (by omega) (by decide)) hw115.symm dX11_hoards_53 rfl ?_
            have hW116 : WX (okX E a) w114 := by rw [hw115]; exact hWl30.set (k := 105) rfl ⟨_, rfl⟩
            have k117 : w114[0]? = some (ob (a 0) 10 [.ref (a 1), .ref (a 3), .ref (a 5), .ref (a 27), .ref (a 49), .int v101, .ref (a 71), .ref (a 79), .ref (a 87), .ref (a 92), .ref (a 103), .ref (a 105), .ref (a 106), .ref (a 107), .ref (a 108), .ref (a 109), .ref (a 110), .ref (a 111), .ref (a 112)]) := by rw [hw115]; exact set_ne k100 (by decide)
            have k118 : w114[1]? = some (ob (a 1) 7 [.ref (a 2), .int (nI n103), .int v105, .int v106, .int v107]) := by rw [hw115]; exact set_ne k102 (by decide)
            have k119 : w114[105]? = some (iA E (a 105) 48 (upd f113 (nI k).toNatClampNeg r109)) := by rw [hw115]; exact set_eq k112
            have kp120 := keeps_set kq30 hw115 (by first | exact rfl | decide | omega | (dsimp only; omega))
            refine x_iload_n C dX11_hoards_54 rfl 3 rfl rfl ?_
            refine x_if_eq C (tgt := 75) dX11_hoards_55 (by decide) rfl (fun c121 => ?_) (fun c121 => ?_)
            · skip
              refine x_iconst C (v := 0) dX11_hoards_75 (by decide) rfl ?_
              refine x_istore_n C (lv' := [(3, .int 0), (0, .ref (a 0)), (1, .int (nI j16)), (2, .int (nI j27)), (4, .int (nI k))]) dX11_hoards_76 rfl (by decide) rfl rfl ?_
              refine x_iinc C (v := (nI (k + 1))) (lv' := [(4, .int (nI (k + 1))), (3, .int 0), (0, .ref (a 0)), (1, .int (nI j16)), (2, .int (nI j27))]) dX11_hoards_77 4 rfl (nI_add k 1) (by decide) rfl rfl ?_
              refine x_goto C (tgt := 30) dX11_hoards_80 (by decide) ?_
              refine x_lv (lv1 := [(0, .ref (a 0)), (1, .int (nI j16)), (2, .int (nI j27)), (3, .int 0), (4, .int (nI (k + 1)))]) [2, 3, 4, 1, 0] rfl ?_
              exact ih30 (0 : Int32) (k + 1) w114 hW116 (by omega) (by omega) kp120
            · skip
              refine x_aload_n C dX11_hoards_58 rfl 0 rfl rfl ?_
              refine x_get C (ci := 10) (k := 11) 0 k117 rfl in_X11 (by decide) w_396 rfl dX11_hoards_59 rfl ?_
              refine x_iload C dX11_hoards_62 4 rfl rfl ?_
              refine x_iald C (v := ((upd f113 (nI k).toNatClampNeg r109) (nI k).toNatClampNeg)) 105 k119 (vp_in_nI (by omega) (by decide)) rfl dX11_hoards_64 rfl ?_
              refine x_any (fun v122 => ?_)
              refine x_sipush C (v := 999) dX11_hoards_65 (by decide) rfl ?_
              refine x_icmp_gt C (tgt := 75) dX11_hoards_68 (by decide) rfl (fun c123 => ?_) (fun c123 => ?_)
              · skip
                refine x_iconst C (v := 0) dX11_hoards_75 (by decide) rfl ?_
                refine x_istore_n C (lv' := [(3, .int 0), (0, .ref (a 0)), (1, .int (nI j16)), (2, .int (nI j27)), (4, .int (nI k))]) dX11_hoards_76 rfl (by decide) rfl rfl ?_
                refine x_iinc C (v := (nI (k + 1))) (lv' := [(4, .int (nI (k + 1))), (3, .int 0), (0, .ref (a 0)), (1, .int (nI j16)), (2, .int (nI j27))]) dX11_hoards_77 4 rfl (nI_add k 1) (by decide) rfl rfl ?_
                refine x_goto C (tgt := 30) dX11_hoards_80 (by decide) ?_
                refine x_lv (lv1 := [(0, .ref (a 0)), (1, .int (nI j16)), (2, .int (nI j27)), (3, .int 0), (4, .int (nI (k + 1)))]) [2, 3, 4, 1, 0] rfl ?_
                exact ih30 (0 : Int32) (k + 1) w114 hW116 (by omega) (by omega) kp120
              · skip
                refine x_iconst C (v := 1) dX11_hoards_71 (by decide) rfl ?_
                refine x_goto C (tgt := 76) dX11_hoards_72 (by decide) ?_
                refine x_istore_n C (lv' := [(3, .int 1), (0, .ref (a 0)), (1, .int (nI j16)), (2, .int (nI j27)), (4, .int (nI k))]) dX11_hoards_76 rfl (by decide) rfl rfl ?_
                refine x_iinc C (v := (nI (k + 1))) (lv' := [(4, .int (nI (k + 1))), (3, .int 1), (0, .ref (a 0)), (1, .int (nI j16)), (2, .int (nI j27))]) dX11_hoards_77 4 rfl (nI_add k 1) (by decide) rfl rfl ?_
                refine x_goto C (tgt := 30) dX11_hoards_80 (by decide) ?_
                refine x_lv (lv1 := [(0, .ref (a 0)), (1, .int (nI j16)), (2, .int (nI j27)), (3, .int 1), (4, .int (nI (k + 1)))]) [2, 3, 4, 1, 0] rfl ?_
                exact ih30 (1 : Int32) (k + 1) w114 hW116 (by omega) (by omega) kp120
      refine x_lv (lv1 := [(0, .ref (a 0)), (1, .int (nI j16)), (2, .int (nI j27)), (3, .int 1), (4, .int 0)]) [2, 3, 4, 1, 0] rfl ?_
      exact loop30 _ (1 : Int32) 0 ws hW (Nat.lt_succ_self _) (by omega) kp0
    · skip
      refine x_iconst C (v := (-1)) dX11_hoards_23 (by decide) rfl ?_
      exact x_zret C hr hlk rfl dX11_hoards_24 ⟨hW, kp0⟩
theorem dX11_yolks_0 : decode cX11_yolks 0 = .ok (.aload_n 0, 1) := by decide +kernel
theorem dX11_yolks_1 : decode cX11_yolks 1 = .ok (.getfield 10, 3) := by decide +kernel
theorem dX11_yolks_4 : decode cX11_yolks 4 = .ok (.iload_n 1, 1) := by decide +kernel
theorem dX11_yolks_5 : decode cX11_yolks 5 = .ok (.iconst 1, 1) := by decide +kernel
theorem dX11_yolks_6 : decode cX11_yolks 6 = .ok (.bipush 10, 2) := by decide +kernel
theorem dX11_yolks_8 : decode cX11_yolks 8 = .ok (.iconst 1, 1) := by decide +kernel
theorem dX11_yolks_9 : decode cX11_yolks 9 = .ok (.invokevirtual 149, 3) := by decide +kernel
theorem dX11_yolks_12 : decode cX11_yolks 12 = .ok (.ifCond .eq 23, 3) := by decide +kernel
theorem dX11_yolks_15 : decode cX11_yolks 15 = .ok (.iload_n 2, 1) := by decide +kernel
theorem dX11_yolks_16 : decode cX11_yolks 16 = .ok (.iconst 0, 1) := by decide +kernel
theorem dX11_yolks_17 : decode cX11_yolks 17 = .ok (.sipush 9999, 3) := by decide +kernel
theorem dX11_yolks_20 : decode cX11_yolks 20 = .ok (.invokestatic 102, 3) := by decide +kernel
theorem dX11_yolks_23 : decode cX11_yolks 23 = .ok (.ifCond .eq 12, 3) := by decide +kernel
theorem dX11_yolks_26 : decode cX11_yolks 26 = .ok (.iload_n 3, 1) := by decide +kernel
theorem dX11_yolks_27 : decode cX11_yolks 27 = .ok (.iconst 0, 1) := by decide +kernel
theorem dX11_yolks_28 : decode cX11_yolks 28 = .ok (.iconst 1, 1) := by decide +kernel
theorem dX11_yolks_29 : decode cX11_yolks 29 = .ok (.invokestatic 102, 3) := by decide +kernel
theorem dX11_yolks_32 : decode cX11_yolks 32 = .ok (.ifCond .ne 5, 3) := by decide +kernel
theorem dX11_yolks_35 : decode cX11_yolks 35 = .ok (.iconst (-1), 1) := by decide +kernel
theorem dX11_yolks_36 : decode cX11_yolks 36 = .ok (.ireturn, 1) := by decide +kernel
theorem dX11_yolks_37 : decode cX11_yolks 37 = .ok (.aload_n 0, 1) := by decide +kernel
theorem dX11_yolks_38 : decode cX11_yolks 38 = .ok (.iload_n 1, 1) := by decide +kernel
theorem dX11_yolks_39 : decode cX11_yolks 39 = .ok (.iconst 1, 1) := by decide +kernel
theorem dX11_yolks_40 : decode cX11_yolks 40 = .ok (.invokevirtual 317, 3) := by decide +kernel
theorem dX11_yolks_43 : decode cX11_yolks 43 = .ok (.istore 4, 2) := by decide +kernel
theorem dX11_yolks_45 : decode cX11_yolks 45 = .ok (.aload_n 0, 1) := by decide +kernel
theorem dX11_yolks_46 : decode cX11_yolks 46 = .ok (.getfield 10, 3) := by decide +kernel
theorem dX11_yolks_49 : decode cX11_yolks 49 = .ok (.iconst 0, 1) := by decide +kernel
theorem dX11_yolks_50 : decode cX11_yolks 50 = .ok (.putfield 142, 3) := by decide +kernel
theorem dX11_yolks_53 : decode cX11_yolks 53 = .ok (.iload 4, 2) := by decide +kernel
theorem dX11_yolks_55 : decode cX11_yolks 55 = .ok (.ifCond .ne 6, 3) := by decide +kernel
theorem dX11_yolks_58 : decode cX11_yolks 58 = .ok (.bipush (-3), 2) := by decide +kernel
theorem dX11_yolks_60 : decode cX11_yolks 60 = .ok (.ireturn, 1) := by decide +kernel
theorem dX11_yolks_61 : decode cX11_yolks 61 = .ok (.aload_n 0, 1) := by decide +kernel
theorem dX11_yolks_62 : decode cX11_yolks 62 = .ok (.getfield 63, 3) := by decide +kernel
theorem dX11_yolks_65 : decode cX11_yolks 65 = .ok (.aload_n 0, 1) := by decide +kernel
theorem dX11_yolks_66 : decode cX11_yolks 66 = .ok (.getfield 22, 3) := by decide +kernel
theorem dX11_yolks_69 : decode cX11_yolks 69 = .ok (.getfield 132, 3) := by decide +kernel
theorem dX11_yolks_72 : decode cX11_yolks 72 = .ok (.aload_n 0, 1) := by decide +kernel
theorem dX11_yolks_73 : decode cX11_yolks 73 = .ok (.getfield 67, 3) := by decide +kernel
theorem dX11_yolks_76 : decode cX11_yolks 76 = .ok (.iload_n 1, 1) := by decide +kernel
theorem dX11_yolks_77 : decode cX11_yolks 77 = .ok (.invokevirtual 349, 3) := by decide +kernel
theorem dX11_yolks_80 : decode cX11_yolks 80 = .ok (.istore 5, 2) := by decide +kernel
theorem dX11_yolks_82 : decode cX11_yolks 82 = .ok (.aload_n 0, 1) := by decide +kernel
theorem dX11_yolks_83 : decode cX11_yolks 83 = .ok (.getfield 63, 3) := by decide +kernel
theorem dX11_yolks_86 : decode cX11_yolks 86 = .ok (.iload_n 2, 1) := by decide +kernel
theorem dX11_yolks_87 : decode cX11_yolks 87 = .ok (.iload 5, 2) := by decide +kernel
theorem dX11_yolks_89 : decode cX11_yolks 89 = .ok (.isub, 1) := by decide +kernel
theorem dX11_yolks_90 : decode cX11_yolks 90 = .ok (.invokevirtual 353, 3) := by decide +kernel
theorem dX11_yolks_93 : decode cX11_yolks 93 = .ok (.iload_n 3, 1) := by decide +kernel
theorem dX11_yolks_94 : decode cX11_yolks 94 = .ok (.ifCond .ne 13, 3) := by decide +kernel
theorem dX11_yolks_97 : decode cX11_yolks 97 = .ok (.aload_n 0, 1) := by decide +kernel
theorem dX11_yolks_98 : decode cX11_yolks 98 = .ok (.getfield 63, 3) := by decide +kernel
theorem dX11_yolks_101 : decode cX11_yolks 101 = .ok (.getfield 355, 3) := by decide +kernel
theorem dX11_yolks_104 : decode cX11_yolks 104 = .ok (.goto 10, 3) := by decide +kernel
theorem dX11_yolks_107 : decode cX11_yolks 107 = .ok (.aload_n 0, 1) := by decide +kernel
theorem dX11_yolks_108 : decode cX11_yolks 108 = .ok (.getfield 63, 3) := by decide +kernel
theorem dX11_yolks_111 : decode cX11_yolks 111 = .ok (.getfield 358, 3) := by decide +kernel
theorem dX11_yolks_114 : decode cX11_yolks 114 = .ok (.ireturn, 1) := by decide +kernel
set_option maxRecDepth 20000 in
set_option maxHeartbeats 4000000 in
theorem c_yolks (E : xE) (l : Launch) (a : Nat → Nat) (ws : va_W) (hW : WX (okX E a) ws) (p0 : Int32) (p1 : Int32) (p2 : Int32) : xI E l yX11_yolks cX11_yolks 6 (some .int) 8 [.ref (a 0), .int p0, .int p1, .int p2] ws (fun r w => WX (okX E a) w ∧ keeps ws w (fun q => ¬ (q = 0 ∨ q = 6 ∨ q = 9 ∨ q = 28 ∨ q = 31))) := by
  refine xI_start (lv := [(0, .ref (a 0)), (1, .int p0), (2, .int p1), (3, .int p2)]) RX11 (by decide) rfl (Nat.le_of_ble_eq_true rfl) rfl (fun p e s m below meth c A C hr hlk => ?_)
  have kp0 : keeps ws ws (fun q => ¬ (q = 0 ∨ q = 6 ∨ q = 9 ∨ q = 28 ∨ q = 31)) := keeps_rf
  refine x_aload_n C dX11_yolks_0 rfl 0 rfl rfl ?_
  obtain ⟨_, k1, v2, rfl⟩ := hW 0 _ rfl
  refine x_get C (ci := 10) (k := 0) 0 k1 rfl in_X11 (by decide) w_385 rfl dX11_yolks_1 rfl ?_
  refine x_iload_n C dX11_yolks_4 rfl 1 rfl rfl ?_
  refine x_iconst C (v := 1) dX11_yolks_5 (by decide) rfl ?_
  refine x_bipush C (v := 10) dX11_yolks_6 (by decide) rfl ?_
  refine x_iconst C (v := 1) dX11_yolks_8 (by decide) rfl ?_
  obtain ⟨_, k3, n4, v6, v7, v8, bn5, rfl⟩ := hW 1 _ rfl
  refine x_vi C (As := [.int p0, .int 1, .int 10, .int 1]) (rest := []) (c_holds E l a ws hW p0 (1 : Int32) (10 : Int32) (1 : Int32)) mf_X8_holds w_507 1 k3 rfl rfl rfl (Nat.le_of_ble_eq_true rfl) ⟨(Nat.le_of_ble_eq_true rfl), (Nat.le_of_ble_eq_true rfl)⟩ ⟨(Nat.le_of_ble_eq_true rfl), (Nat.le_of_ble_eq_true rfl)⟩ dX11_yolks_9 rfl (fun r10 w11 h9 => ?_)
  obtain ⟨hW12, zb13, x14⟩ := h9
  refine x_ws hW12 ?_
  refine x_if_eq C (tgt := 35) dX11_yolks_12 (by decide) rfl (fun c15 => ?_) (fun c15 => ?_)
  · skip
    refine x_iconst C (v := (-1)) dX11_yolks_35 (by decide) rfl ?_
    exact x_zret C hr hlk rfl dX11_yolks_36 ⟨hW, kp0⟩
  · skip
    obtain ⟨j16, hl17, hh18, ej19⟩ := w_nat (a := 1) (b := 10) (by decide) (by decide) (x14 c15)
    subst ej19
    refine x_iload_n C dX11_yolks_15 rfl 2 rfl rfl ?_
    refine x_iconst C (v := 0) dX11_yolks_16 (by decide) rfl ?_
    refine x_sipush C (v := 9999) dX11_yolks_17 (by decide) rfl ?_
    refine x_si C (As := [.int p1, .int 0, .int 9999]) (rest := []) (c_isWithin E l a ws hW p1 (0 : Int32) (9999 : Int32)) mf_X11_isWithin w_462 rfl rfl (Nat.le_of_ble_eq_true rfl) ⟨(Nat.le_of_ble_eq_true rfl), (Nat.le_of_ble_eq_true rfl)⟩ ⟨(Nat.le_of_ble_eq_true rfl), (Nat.le_of_ble_eq_true rfl)⟩ dX11_yolks_20 rfl (fun r21 w22 h20 => ?_)
    obtain ⟨hW23, zb24, x25⟩ := h20
    refine x_ws hW23 ?_
    refine x_if_eq C (tgt := 35) dX11_yolks_23 (by decide) rfl (fun c26 => ?_) (fun c26 => ?_)
    · skip
      refine x_iconst C (v := (-1)) dX11_yolks_35 (by decide) rfl ?_
      exact x_zret C hr hlk rfl dX11_yolks_36 ⟨hW, kp0⟩
    · skip
      obtain ⟨j27, hl28, hh29, ej30⟩ := w_nat (a := 0) (b := 9999) (by decide) (by decide) (x25 c26)
      subst ej30
      refine x_iload_n C dX11_yolks_26 rfl 3 rfl rfl ?_
      refine x_iconst C (v := 0) dX11_yolks_27 (by decide) rfl ?_
      refine x_iconst C (v := 1) dX11_yolks_28 (by decide) rfl ?_
      refine x_si C (As := [.int p2, .int 0, .int 1]) (rest := []) (c_isWithin E l a ws hW p2 (0 : Int32) (1 : Int32)) mf_X11_isWithin w_462 rfl rfl (Nat.le_of_ble_eq_true rfl) ⟨(Nat.le_of_ble_eq_true rfl), (Nat.le_of_ble_eq_true rfl)⟩ ⟨(Nat.le_of_ble_eq_true rfl), (Nat.le_of_ble_eq_true rfl)⟩ dX11_yolks_29 rfl (fun r32 w33 h31 => ?_)
      obtain ⟨hW34, zb35, x36⟩ := h31
      refine x_ws hW34 ?_
      refine x_if_ne C (tgt := 37) dX11_yolks_32 (by decide) rfl (fun c37 => ?_) (fun c37 => ?_)
      · skip
        obtain ⟨j38, hl39, hh40, ej41⟩ := w_nat (a := 0) (b := 1) (by decide) (by decide) (x36 c37)
        subst ej41
        refine x_aload_n C dX11_yolks_37 rfl 0 rfl rfl ?_
        refine x_iload_n C dX11_yolks_38 rfl 1 rfl rfl ?_
        refine x_iconst C (v := 1) dX11_yolks_39 (by decide) rfl ?_
        refine x_vi C (As := [.int (nI j16), .int 1]) (rest := []) (c_tellEggs E l a ws hW ((nI j16)) (1 : Int32)) mf_X11_tellEggs w_979 0 k1 rfl rfl rfl (Nat.le_of_ble_eq_true rfl) ⟨(Nat.le_of_ble_eq_true rfl), (Nat.le_of_ble_eq_true rfl)⟩ ⟨(Nat.le_of_ble_eq_true rfl), (Nat.le_of_ble_eq_true rfl)⟩ dX11_yolks_40 rfl (fun r43 w44 h42 => ?_)
        obtain ⟨hW45, kq46, zb47⟩ := h42
        have k48 : w44[0]? = some (ob (a 0) 10 [.ref (a 1), .ref (a 3), .ref (a 5), .ref (a 27), .ref (a 49), .int v2, .ref (a 71), .ref (a 79), .ref (a 87), .ref (a 92), .ref (a 103), .ref (a 105), .ref (a 106), .ref (a 107), .ref (a 108), .ref (a 109), .ref (a 110), .ref (a 111), .ref (a 112)]) := keeps_at kq46 k1 (by first | decide | omega | (dsimp only; omega))
        have k49 : w44[1]? = some (ob (a 1) 7 [.ref (a 2), .int (nI n4), .int v6, .int v7, .int v8]) := keeps_at kq46 k3 (by first | decide | omega | (dsimp only; omega))
        have kp50 := keeps_tr kp0 kq46 (fun q hq => by first | omega | (dsimp only at *; omega))
        refine x_istore C (lv' := [(4, .int r43), (0, .ref (a 0)), (1, .int (nI j16)), (2, .int (nI j27)), (3, .int (nI j38))]) dX11_yolks_43 (by decide) rfl rfl ?_
        refine x_aload_n C dX11_yolks_45 rfl 1 rfl rfl ?_
        refine x_get C (ci := 10) (k := 0) 0 k48 rfl in_X11 (by decide) w_385 rfl dX11_yolks_46 rfl ?_
        refine x_iconst C (v := 0) dX11_yolks_49 (by decide) rfl ?_
        obtain ⟨w51, hw52⟩ : ∃ w : va_W, w = List.set w44 1 (ob (a 1) 7 [.ref (a 2), .int 0, .int v6, .int v7, .int v8]) := ⟨_, rfl⟩
        refine x_put C (ci := 7) (k := 1) (ty := .int) 1 k49 rfl in_X8 tyX8 tyX8_ok nmX8 (by decide) w_38 rfl rfl rfl rfl (Nat.le_of_ble_eq_true rfl) hw52.symm dX11_yolks_50 rfl ?_
        have hW53 : WX (okX E a) w51 := by rw [hw52]; exact hW45.set (k := 1) rfl ⟨0, v6, v7, v8, by omega, rfl⟩
        have k54 : w51[0]? = some (ob (a 0) 10 [.ref (a 1), .ref (a 3), .ref (a 5), .ref (a 27), .ref (a 49), .int v2, .ref (a 71), .ref (a 79), .ref (a 87), .ref (a 92), .ref (a 103), .ref (a 105), .ref (a 106), .ref (a 107), .ref (a 108), .ref (a 109), .ref (a 110), .ref (a 111), .ref (a 112)]) := by rw [hw52]; exact set_ne k48 (by decide)
        have k55 : w51[1]? = some (ob (a 1) 7 [.ref (a 2), .int 0, .int v6, .int v7, .int v8]) := by rw [hw52]; exact set_eq k49
        have kp56 := keeps_set kp50 hw52 (by first | exact rfl | decide | omega | (dsimp only; omega))
        refine x_iload C dX11_yolks_53 0 rfl rfl ?_
        refine x_if_ne C (tgt := 61) dX11_yolks_55 (by decide) rfl (fun c57 => ?_) (fun c57 => ?_)
        · skip
          refine x_aload_n C dX11_yolks_61 rfl 1 rfl rfl ?_
          refine x_get C (ci := 10) (k := 10) 0 k54 rfl in_X11 (by decide) w_395 rfl dX11_yolks_62 rfl ?_
          refine x_aload_n C dX11_yolks_65 rfl 1 rfl rfl ?_
          refine x_get C (ci := 10) (k := 2) 0 k54 rfl in_X11 (by decide) w_387 rfl dX11_yolks_66 rfl ?_
          obtain ⟨_, k58, n59, v61, v62, v63, v64, v65, bn60, rfl⟩ := hW53 5 _ rfl
          refine x_get C (ci := 8) (k := 4) 5 k58 rfl in_X9 (by decide) w_209 rfl dX11_yolks_69 rfl ?_
          refine x_aload_n C dX11_yolks_72 rfl 1 rfl rfl ?_
          refine x_get C (ci := 10) (k := 11) 0 k54 rfl in_X11 (by decide) w_396 rfl dX11_yolks_73 rfl ?_
          refine x_iload_n C dX11_yolks_76 rfl 2 rfl rfl ?_
          obtain ⟨_, k66, v67, v68, v69, n70, bn71, rfl⟩ := hW53 103 _ rfl
          refine x_vi C (As := [.ref (a 14), .ref (a 105), .int (nI j16)]) (rest := []) (c_fill E l a w51 hW53 j16 (by omega)) mf_X7_fill w_1018 103 k66 rfl rfl rfl (Nat.le_of_ble_eq_true rfl) ⟨(Nat.le_of_ble_eq_true rfl), (Nat.le_of_ble_eq_true rfl)⟩ ⟨(Nat.le_of_ble_eq_true rfl), (Nat.le_of_ble_eq_true rfl)⟩ dX11_yolks_77 rfl (fun r73 w74 h72 => ?_)
          obtain ⟨hW75, kq76⟩ := h72
          have k77 : w74[0]? = some (ob (a 0) 10 [.ref (a 1), .ref (a 3), .ref (a 5), .ref (a 27), .ref (a 49), .int v2, .ref (a 71), .ref (a 79), .ref (a 87), .ref (a 92), .ref (a 103), .ref (a 105), .ref (a 106), .ref (a 107), .ref (a 108), .ref (a 109), .ref (a 110), .ref (a 111), .ref (a 112)]) := keeps_at kq76 k54 (by first | decide | omega | (dsimp only; omega))
          have k78 : w74[1]? = some (ob (a 1) 7 [.ref (a 2), .int 0, .int v6, .int v7, .int v8]) := keeps_at kq76 k55 (by first | decide | omega | (dsimp only; omega))
          have k79 : w74[5]? = some (ob (a 5) 8 [.int (nI n59), .int v61, .ref (a 6), .ref (a 9), .ref (a 14), .ref (a 21), .int v62, .int v63, .int v64, .int v65]) := keeps_at kq76 k58 (by first | decide | omega | (dsimp only; omega))
          have kp80 := keeps_tr kp56 kq76 (fun q hq => by first | omega | (dsimp only at *; omega))
          refine x_istore C (lv' := [(5, .int r73), (4, .int r43), (0, .ref (a 0)), (1, .int (nI j16)), (2, .int (nI j27)), (3, .int (nI j38))]) dX11_yolks_80 (by decide) rfl rfl ?_
          refine x_aload_n C dX11_yolks_82 rfl 2 rfl rfl ?_
          refine x_get C (ci := 10) (k := 10) 0 k77 rfl in_X11 (by decide) w_395 rfl dX11_yolks_83 rfl ?_
          refine x_iload_n C dX11_yolks_86 rfl 4 rfl rfl ?_
          refine x_iload C dX11_yolks_87 0 rfl rfl ?_
          refine x_isub C (v := ((nI j27) - r73)) dX11_yolks_89 rfl rfl ?_
          refine x_any (fun v81 => ?_)
          obtain ⟨_, k82, v83, v84, v85, n86, bn87, rfl⟩ := hW75 103 _ rfl
          refine x_vv C (As := [.int v81]) (rest := []) (c_find E l a w74 hW75 v81) mf_X7_find w_1024 103 k82 rfl rfl rfl (Nat.le_of_ble_eq_true rfl) ⟨(Nat.le_of_ble_eq_true rfl), (Nat.le_of_ble_eq_true rfl)⟩ ⟨(Nat.le_of_ble_eq_true rfl), (Nat.le_of_ble_eq_true rfl)⟩ dX11_yolks_90 rfl (fun w90 h88 => ?_)
          obtain ⟨hW91, kq92⟩ := h88
          have k93 : w90[0]? = some (ob (a 0) 10 [.ref (a 1), .ref (a 3), .ref (a 5), .ref (a 27), .ref (a 49), .int v2, .ref (a 71), .ref (a 79), .ref (a 87), .ref (a 92), .ref (a 103), .ref (a 105), .ref (a 106), .ref (a 107), .ref (a 108), .ref (a 109), .ref (a 110), .ref (a 111), .ref (a 112)]) := keeps_at kq92 k77 (by first | decide | omega | (dsimp only; omega))
          have k94 : w90[1]? = some (ob (a 1) 7 [.ref (a 2), .int 0, .int v6, .int v7, .int v8]) := keeps_at kq92 k78 (by first | decide | omega | (dsimp only; omega))
          have k95 : w90[5]? = some (ob (a 5) 8 [.int (nI n59), .int v61, .ref (a 6), .ref (a 9), .ref (a 14), .ref (a 21), .int v62, .int v63, .int v64, .int v65]) := keeps_at kq92 k79 (by first | decide | omega | (dsimp only; omega))
          have kp96 := keeps_tr kp80 kq92 (fun q hq => by first | omega | (dsimp only at *; omega))
          refine x_iload_n C dX11_yolks_93 rfl 5 rfl rfl ?_
          refine x_if_ne C (tgt := 107) dX11_yolks_94 (by decide) rfl (fun c97 => ?_) (fun c97 => ?_)
          · skip
            have nf98 : ¬ j38 = 0 := fun q => c97 (congrArg nI q)
            refine x_aload_n C dX11_yolks_107 rfl 2 rfl rfl ?_
            refine x_get C (ci := 10) (k := 10) 0 k93 rfl in_X11 (by decide) w_395 rfl dX11_yolks_108 rfl ?_
            obtain ⟨_, k99, v100, v101, v102, n103, bn104, rfl⟩ := hW91 103 _ rfl
            refine x_get C (ci := 6) (k := 1) 103 k99 rfl in_X7 (by decide) w_369 rfl dX11_yolks_111 rfl ?_
            exact x_zret C hr hlk rfl dX11_yolks_114 ⟨hW91, kp96⟩
          · skip
            have nf105 : j38 = 0 := (nI_eq (by omega) (by omega)).mp c97
            refine x_aload_n C dX11_yolks_97 rfl 2 rfl rfl ?_
            refine x_get C (ci := 10) (k := 10) 0 k93 rfl in_X11 (by decide) w_395 rfl dX11_yolks_98 rfl ?_
            obtain ⟨_, k106, v107, v108, v109, n110, bn111, rfl⟩ := hW91 103 _ rfl
            refine x_get C (ci := 6) (k := 0) 103 k106 rfl in_X7 (by decide) w_367 rfl dX11_yolks_101 rfl ?_
            refine x_goto C (tgt := 114) dX11_yolks_104 (by decide) ?_
            exact x_zret C hr hlk rfl dX11_yolks_114 ⟨hW91, kp96⟩
        · skip
          refine x_bipush C (v := (-3)) dX11_yolks_58 (by decide) rfl ?_
          exact x_zret C hr hlk rfl dX11_yolks_60 ⟨hW53, kp56⟩
      · skip
        refine x_iconst C (v := (-1)) dX11_yolks_35 (by decide) rfl ?_
        exact x_zret C hr hlk rfl dX11_yolks_36 ⟨hW, kp0⟩
theorem dX11_thefts_0 : decode cX11_thefts 0 = .ok (.aload_n 0, 1) := by decide +kernel
theorem dX11_thefts_1 : decode cX11_thefts 1 = .ok (.getfield 22, 3) := by decide +kernel
theorem dX11_thefts_4 : decode cX11_thefts 4 = .ok (.getfield 92, 3) := by decide +kernel
theorem dX11_thefts_7 : decode cX11_thefts 7 = .ok (.iload_n 1, 1) := by decide +kernel
theorem dX11_thefts_8 : decode cX11_thefts 8 = .ok (.invokevirtual 106, 3) := by decide +kernel
theorem dX11_thefts_11 : decode cX11_thefts 11 = .ok (.ifCond .eq 15, 3) := by decide +kernel
theorem dX11_thefts_14 : decode cX11_thefts 14 = .ok (.aload_n 0, 1) := by decide +kernel
theorem dX11_thefts_15 : decode cX11_thefts 15 = .ok (.getfield 22, 3) := by decide +kernel
theorem dX11_thefts_18 : decode cX11_thefts 18 = .ok (.getfield 92, 3) := by decide +kernel
theorem dX11_thefts_21 : decode cX11_thefts 21 = .ok (.iload_n 1, 1) := by decide +kernel
theorem dX11_thefts_22 : decode cX11_thefts 22 = .ok (.invokevirtual 361, 3) := by decide +kernel
theorem dX11_thefts_25 : decode cX11_thefts 25 = .ok (.ireturn, 1) := by decide +kernel
theorem dX11_thefts_26 : decode cX11_thefts 26 = .ok (.iload_n 1, 1) := by decide +kernel
theorem dX11_thefts_27 : decode cX11_thefts 27 = .ok (.bipush 10, 2) := by decide +kernel
theorem dX11_thefts_29 : decode cX11_thefts 29 = .ok (.bipush 11, 2) := by decide +kernel
theorem dX11_thefts_31 : decode cX11_thefts 31 = .ok (.invokestatic 102, 3) := by decide +kernel
theorem dX11_thefts_34 : decode cX11_thefts 34 = .ok (.ifCond .ne 7, 3) := by decide +kernel
theorem dX11_thefts_37 : decode cX11_thefts 37 = .ok (.ldc_w 364, 3) := by decide +kernel
theorem dX11_thefts_40 : decode cX11_thefts 40 = .ok (.ireturn, 1) := by decide +kernel
theorem dX11_thefts_41 : decode cX11_thefts 41 = .ok (.iconst 0, 1) := by decide +kernel
theorem dX11_thefts_42 : decode cX11_thefts 42 = .ok (.istore_n 2, 1) := by decide +kernel
theorem dX11_thefts_43 : decode cX11_thefts 43 = .ok (.bipush (-2), 2) := by decide +kernel
theorem dX11_thefts_45 : decode cX11_thefts 45 = .ok (.istore_n 3, 1) := by decide +kernel
theorem dX11_thefts_46 : decode cX11_thefts 46 = .ok (.iconst 0, 1) := by decide +kernel
theorem dX11_thefts_47 : decode cX11_thefts 47 = .ok (.istore 4, 2) := by decide +kernel
theorem dX11_thefts_49 : decode cX11_thefts 49 = .ok (.iconst 0, 1) := by decide +kernel
theorem dX11_thefts_50 : decode cX11_thefts 50 = .ok (.istore 5, 2) := by decide +kernel
theorem dX11_thefts_52 : decode cX11_thefts 52 = .ok (.iload 5, 2) := by decide +kernel
theorem dX11_thefts_54 : decode cX11_thefts 54 = .ok (.bipush 8, 2) := by decide +kernel
theorem dX11_thefts_56 : decode cX11_thefts 56 = .ok (.if_icmp .ge 77, 3) := by decide +kernel
theorem dX11_thefts_59 : decode cX11_thefts 59 = .ok (.aload_n 0, 1) := by decide +kernel
theorem dX11_thefts_60 : decode cX11_thefts 60 = .ok (.getfield 22, 3) := by decide +kernel
theorem dX11_thefts_63 : decode cX11_thefts 63 = .ok (.getfield 92, 3) := by decide +kernel
theorem dX11_thefts_66 : decode cX11_thefts 66 = .ok (.iload 5, 2) := by decide +kernel
theorem dX11_thefts_68 : decode cX11_thefts 68 = .ok (.invokevirtual 106, 3) := by decide +kernel
theorem dX11_thefts_71 : decode cX11_thefts 71 = .ok (.ifCond .eq 18, 3) := by decide +kernel
theorem dX11_thefts_74 : decode cX11_thefts 74 = .ok (.aload_n 0, 1) := by decide +kernel
theorem dX11_thefts_75 : decode cX11_thefts 75 = .ok (.getfield 22, 3) := by decide +kernel
theorem dX11_thefts_78 : decode cX11_thefts 78 = .ok (.getfield 92, 3) := by decide +kernel
theorem dX11_thefts_81 : decode cX11_thefts 81 = .ok (.iload 5, 2) := by decide +kernel
theorem dX11_thefts_83 : decode cX11_thefts 83 = .ok (.invokevirtual 361, 3) := by decide +kernel
theorem dX11_thefts_86 : decode cX11_thefts 86 = .ok (.goto 4, 3) := by decide +kernel
theorem dX11_thefts_89 : decode cX11_thefts 89 = .ok (.iconst 0, 1) := by decide +kernel
theorem dX11_thefts_90 : decode cX11_thefts 90 = .ok (.istore 6, 2) := by decide +kernel
theorem dX11_thefts_92 : decode cX11_thefts 92 = .ok (.iload 4, 2) := by decide +kernel
theorem dX11_thefts_94 : decode cX11_thefts 94 = .ok (.iload 6, 2) := by decide +kernel
theorem dX11_thefts_96 : decode cX11_thefts 96 = .ok (.ifCond .le 7, 3) := by decide +kernel
theorem dX11_thefts_99 : decode cX11_thefts 99 = .ok (.iconst 1, 1) := by decide +kernel
theorem dX11_thefts_100 : decode cX11_thefts 100 = .ok (.goto 4, 3) := by decide +kernel
theorem dX11_thefts_103 : decode cX11_thefts 103 = .ok (.iconst 0, 1) := by decide +kernel
theorem dX11_thefts_104 : decode cX11_thefts 104 = .ok (.iadd, 1) := by decide +kernel
theorem dX11_thefts_105 : decode cX11_thefts 105 = .ok (.istore 4, 2) := by decide +kernel
theorem dX11_thefts_107 : decode cX11_thefts 107 = .ok (.iload 6, 2) := by decide +kernel
theorem dX11_thefts_109 : decode cX11_thefts 109 = .ok (.iload_n 2, 1) := by decide +kernel
theorem dX11_thefts_110 : decode cX11_thefts 110 = .ok (.if_icmp .le 8, 3) := by decide +kernel
theorem dX11_thefts_113 : decode cX11_thefts 113 = .ok (.iload 5, 2) := by decide +kernel
theorem dX11_thefts_115 : decode cX11_thefts 115 = .ok (.goto 4, 3) := by decide +kernel
theorem dX11_thefts_118 : decode cX11_thefts 118 = .ok (.iload_n 3, 1) := by decide +kernel
theorem dX11_thefts_119 : decode cX11_thefts 119 = .ok (.istore_n 3, 1) := by decide +kernel
theorem dX11_thefts_120 : decode cX11_thefts 120 = .ok (.iload_n 2, 1) := by decide +kernel
theorem dX11_thefts_121 : decode cX11_thefts 121 = .ok (.iload 6, 2) := by decide +kernel
theorem dX11_thefts_123 : decode cX11_thefts 123 = .ok (.invokestatic 330, 3) := by decide +kernel
theorem dX11_thefts_126 : decode cX11_thefts 126 = .ok (.istore_n 2, 1) := by decide +kernel
theorem dX11_thefts_127 : decode cX11_thefts 127 = .ok (.iinc 5 1, 3) := by decide +kernel
theorem dX11_thefts_130 : decode cX11_thefts 130 = .ok (.goto (-78), 3) := by decide +kernel
theorem dX11_thefts_133 : decode cX11_thefts 133 = .ok (.iload_n 1, 1) := by decide +kernel
theorem dX11_thefts_134 : decode cX11_thefts 134 = .ok (.bipush 10, 2) := by decide +kernel
theorem dX11_thefts_136 : decode cX11_thefts 136 = .ok (.if_icmp .ne 7, 3) := by decide +kernel
theorem dX11_thefts_139 : decode cX11_thefts 139 = .ok (.iload_n 3, 1) := by decide +kernel
theorem dX11_thefts_140 : decode cX11_thefts 140 = .ok (.goto 5, 3) := by decide +kernel
theorem dX11_thefts_143 : decode cX11_thefts 143 = .ok (.iload 4, 2) := by decide +kernel
theorem dX11_thefts_145 : decode cX11_thefts 145 = .ok (.ireturn, 1) := by decide +kernel
set_option maxRecDepth 20000 in
set_option maxHeartbeats 4000000 in
theorem c_thefts (E : xE) (l : Launch) (a : Nat → Nat) (ws : va_W) (hW : WX (okX E a) ws) (p0 : Int32) : xI E l yX11_thefts cX11_thefts 7 (some .int) 8 [.ref (a 0), .int p0] ws (fun r w => WX (okX E a) w ∧ keeps ws w (fun q => ¬ (q = 0 ∨ q = 6 ∨ q = 9 ∨ q = 28 ∨ q = 31))) := by
  refine xI_start (lv := [(0, .ref (a 0)), (1, .int p0)]) RX11 (by decide) rfl (Nat.le_of_ble_eq_true rfl) rfl (fun p e s m below meth c A C hr hlk => ?_)
  have kp0 : keeps ws ws (fun q => ¬ (q = 0 ∨ q = 6 ∨ q = 9 ∨ q = 28 ∨ q = 31)) := keeps_rf
  refine x_aload_n C dX11_thefts_0 rfl 0 rfl rfl ?_
  obtain ⟨_, k1, v2, rfl⟩ := hW 0 _ rfl
  refine x_get C (ci := 10) (k := 2) 0 k1 rfl in_X11 (by decide) w_387 rfl dX11_thefts_1 rfl ?_
  obtain ⟨_, k3, n4, v6, v7, v8, v9, v10, bn5, rfl⟩ := hW 5 _ rfl
  refine x_get C (ci := 8) (k := 3) 5 k3 rfl in_X9 (by decide) w_204 rfl dX11_thefts_4 rfl ?_
  refine x_iload_n C dX11_thefts_7 rfl 1 rfl rfl ?_
  obtain ⟨_, k11, v12, rfl⟩ := hW 9 _ rfl
  refine x_vi C (As := [.int p0]) (rest := []) (c_People_isTold E l a ws hW 5 (Or.inl rfl) p0) mf_X5_isTold w_465 9 k11 rfl rfl rfl (Nat.le_of_ble_eq_true rfl) ⟨(Nat.le_of_ble_eq_true rfl), (Nat.le_of_ble_eq_true rfl)⟩ ⟨(Nat.le_of_ble_eq_true rfl), (Nat.le_of_ble_eq_true rfl)⟩ dX11_thefts_8 rfl (fun r14 w15 h13 => ?_)
  obtain ⟨hW16, zb17, x18⟩ := h13
  refine x_ws hW16 ?_
  refine x_if_eq C (tgt := 26) dX11_thefts_11 (by decide) rfl (fun c19 => ?_) (fun c19 => ?_)
  · skip
    refine x_iload_n C dX11_thefts_26 rfl 1 rfl rfl ?_
    refine x_bipush C (v := 10) dX11_thefts_27 (by decide) rfl ?_
    refine x_bipush C (v := 11) dX11_thefts_29 (by decide) rfl ?_
    refine x_si C (As := [.int p0, .int 10, .int 11]) (rest := []) (c_isWithin E l a ws hW p0 (10 : Int32) (11 : Int32)) mf_X11_isWithin w_462 rfl rfl (Nat.le_of_ble_eq_true rfl) ⟨(Nat.le_of_ble_eq_true rfl), (Nat.le_of_ble_eq_true rfl)⟩ ⟨(Nat.le_of_ble_eq_true rfl), (Nat.le_of_ble_eq_true rfl)⟩ dX11_thefts_31 rfl (fun r21 w22 h20 => ?_)
    obtain ⟨hW23, zb24, x25⟩ := h20
    refine x_ws hW23 ?_
    refine x_if_ne C (tgt := 41) dX11_thefts_34 (by decide) rfl (fun c26 => ?_) (fun c26 => ?_)
    · skip
      obtain ⟨j27, hl28, hh29, ej30⟩ := w_nat (a := 10) (b := 11) (by decide) (by decide) (x25 c26)
      subst ej30
      refine x_iconst C (v := 0) dX11_thefts_41 (by decide) rfl ?_
      refine x_istore_n C (lv' := [(2, .int 0), (0, .ref (a 0)), (1, .int (nI j27))]) dX11_thefts_42 rfl (by decide) rfl rfl ?_
      refine x_bipush C (v := (-2)) dX11_thefts_43 (by decide) rfl ?_
      refine x_istore_n C (lv' := [(3, .int (-2)), (2, .int 0), (0, .ref (a 0)), (1, .int (nI j27))]) dX11_thefts_45 rfl (by decide) rfl rfl ?_
      refine x_iconst C (v := 0) dX11_thefts_46 (by decide) rfl ?_
      refine x_istore C (lv' := [(4, .int 0), (3, .int (-2)), (2, .int 0), (0, .ref (a 0)), (1, .int (nI j27))]) dX11_thefts_47 (by decide) rfl rfl ?_
      refine x_iconst C (v := 0) dX11_thefts_49 (by decide) rfl ?_
      refine x_istore C (lv' := [(5, .int 0), (4, .int 0), (3, .int (-2)), (2, .int 0), (0, .ref (a 0)), (1, .int (nI j27))]) dX11_thefts_50 (by decide) rfl rfl ?_
      have loop52 : ∀ (fu52 : Nat) (z52_2 : Int32) (z52_3 : Int32) (z52_4 : Int32) (pp : Nat), True → 8 - pp < fu52 → pp ≤ 8 → X E p l e (xRm 8 0 0) s m ([.ref (a 0), .int (nI j27)] : List Value).toArray below meth c A 7 0 0 (MQ below (va_Qi (fun r w => WX (okX E a) w ∧ keeps ws w (fun q => ¬ (q = 0 ∨ q = 6 ∨ q = 9 ∨ q = 28 ∨ q = 31))) (xB E A) A) ([.ref (a 0), .int (nI j27)] : List Value).toArray s 0 0 A) ws 52 [(0, .ref (a 0)), (1, .int (nI j27)), (2, .int z52_2), (3, .int z52_3), (4, .int z52_4), (5, .int (nI pp))] [] := by
        intro fu52
        induction fu52 with
        | zero => intro z52_2 z52_3 z52_4 pp _ q; omega
        | succ fu52 ih52 =>
          intro z52_2 z52_3 z52_4 pp _ me52 iv52_0
          refine x_iload C dX11_thefts_52 5 rfl rfl ?_
          refine x_bipush C (v := 8) dX11_thefts_54 (by decide) rfl ?_
          refine x_icmp_ge C (tgt := 133) dX11_thefts_56 (by decide) rfl (fun c31 => ?_) (fun c31 => ?_)
          · skip
            have nf32 := nI_le' (a := 8) (b := pp) c31 (by omega) (by omega)
            refine x_iload_n C dX11_thefts_133 rfl 1 rfl rfl ?_
            refine x_bipush C (v := 10) dX11_thefts_134 (by decide) rfl ?_
            refine x_icmp_ne C (tgt := 143) dX11_thefts_136 (by decide) rfl (fun c33 => ?_) (fun c33 => ?_)
            · skip
              have nf34 : ¬ j27 = 10 := fun q => c33 (congrArg nI q)
              refine x_iload C dX11_thefts_143 4 rfl rfl ?_
              exact x_zret C hr hlk rfl dX11_thefts_145 ⟨hW, kp0⟩
            · skip
              have nf35 : j27 = 10 := (nI_eq (by omega) (by omega)).mp c33
              refine x_iload_n C dX11_thefts_139 rfl 3 rfl rfl ?_
              refine x_goto C (tgt := 145) dX11_thefts_140 (by decide) ?_
              exact x_zret C hr hlk rfl dX11_thefts_145 ⟨hW, kp0⟩
          · skip
            have nf36 := nI_nle' (a := 8) (b := pp) c31 (by omega) (by omega)
            refine x_aload_n C dX11_thefts_59 rfl 0 rfl rfl ?_
            refine x_get C (ci := 10) (k := 2) 0 k1 rfl in_X11 (by decide) w_387 rfl dX11_thefts_60 rfl ?_
            refine x_get C (ci := 8) (k := 3) 5 k3 rfl in_X9 (by decide) w_204 rfl dX11_thefts_63 rfl ?_
            refine x_iload C dX11_thefts_66 5 rfl rfl ?_
            refine x_vi C (As := [.int (nI pp)]) (rest := []) (c_People_isTold E l a ws hW 5 (Or.inl rfl) ((nI pp))) mf_X5_isTold w_465 9 k11 rfl rfl rfl (Nat.le_of_ble_eq_true rfl) ⟨(Nat.le_of_ble_eq_true rfl), (Nat.le_of_ble_eq_true rfl)⟩ ⟨(Nat.le_of_ble_eq_true rfl), (Nat.le_of_ble_eq_true rfl)⟩ dX11_thefts_68 rfl (fun r38 w39 h37 => ?_)
            obtain ⟨hW40, zb41, x42⟩ := h37
            refine x_ws hW40 ?_
            refine x_if_eq C (tgt := 89) dX11_thefts_71 (by decide) rfl (fun c43 => ?_) (fun c43 => ?_)
            · skip
              refine x_iconst C (v := 0) dX11_thefts_89 (by decide) rfl ?_
              refine x_istore C (lv' := [(6, .int 0), (0, .ref (a 0)), (1, .int (nI j27)), (2, .int z52_2), (3, .int z52_3), (4, .int z52_4), (5, .int (nI pp))]) dX11_thefts_90 (by decide) rfl rfl ?_
              refine x_iload C dX11_thefts_92 5 rfl rfl ?_
              refine x_iload C dX11_thefts_94 0 rfl rfl ?_
              refine x_if_le C (tgt := 103) dX11_thefts_96 (by decide) rfl (fun _ => ?_) (fun h => absurd h (by decide))
              refine x_iconst C (v := 0) dX11_thefts_103 (by decide) rfl ?_
              refine x_iadd C (v := (z52_4 + (0 : Int32))) dX11_thefts_104 rfl rfl ?_
              refine x_any (fun v44 => ?_)
              refine x_istore C (lv' := [(4, .int v44), (6, .int 0), (0, .ref (a 0)), (1, .int (nI j27)), (2, .int z52_2), (3, .int z52_3), (5, .int (nI pp))]) dX11_thefts_105 (by decide) rfl rfl ?_
              refine x_iload C dX11_thefts_107 1 rfl rfl ?_
              refine x_iload_n C dX11_thefts_109 rfl 4 rfl rfl ?_
              refine x_icmp_le C (tgt := 118) dX11_thefts_110 (by decide) rfl (fun c45 => ?_) (fun c45 => ?_)
              · skip
                refine x_iload_n C dX11_thefts_118 rfl 5 rfl rfl ?_
                refine x_istore_n C (lv' := [(3, .int z52_3), (4, .int v44), (6, .int 0), (0, .ref (a 0)), (1, .int (nI j27)), (2, .int z52_2), (5, .int (nI pp))]) dX11_thefts_119 rfl (by decide) rfl rfl ?_
                refine x_iload_n C dX11_thefts_120 rfl 5 rfl rfl ?_
                refine x_iload C dX11_thefts_121 2 rfl rfl ?_
                refine x_mmax C (v := (if z52_2 < (0 : Int32) then (0 : Int32) else z52_2)) w_992 w_558 w_16 w_559 (Nat.le_of_ble_eq_true rfl) (Nat.le_of_ble_eq_true rfl) (Nat.le_of_ble_eq_true rfl) (Nat.le_of_ble_eq_true rfl) rfl dX11_thefts_123 rfl ?_
                refine x_any (fun v46 => ?_)
                refine x_istore_n C (lv' := [(2, .int v46), (3, .int z52_3), (4, .int v44), (6, .int 0), (0, .ref (a 0)), (1, .int (nI j27)), (5, .int (nI pp))]) dX11_thefts_126 rfl (by decide) rfl rfl ?_
                refine x_iinc C (v := (nI (pp + 1))) (lv' := [(5, .int (nI (pp + 1))), (2, .int v46), (3, .int z52_3), (4, .int v44), (6, .int 0), (0, .ref (a 0)), (1, .int (nI j27))]) dX11_thefts_127 6 rfl (nI_add pp 1) (by decide) rfl rfl ?_
                refine x_goto C (tgt := 52) dX11_thefts_130 (by decide) ?_
                refine x_lv (lv1 := [(0, .ref (a 0)), (1, .int (nI j27)), (2, .int v46), (3, .int z52_3), (4, .int v44), (5, .int (nI (pp + 1)))]) [5, 6, 1, 2, 3, 0] rfl ?_
                exact ih52 v46 z52_3 v44 (pp + 1) trivial (by omega) (by omega)
              · skip
                refine x_iload C dX11_thefts_113 6 rfl rfl ?_
                refine x_goto C (tgt := 119) dX11_thefts_115 (by decide) ?_
                refine x_istore_n C (lv' := [(3, .int (nI pp)), (4, .int v44), (6, .int 0), (0, .ref (a 0)), (1, .int (nI j27)), (2, .int z52_2), (5, .int (nI pp))]) dX11_thefts_119 rfl (by decide) rfl rfl ?_
                refine x_iload_n C dX11_thefts_120 rfl 5 rfl rfl ?_
                refine x_iload C dX11_thefts_121 2 rfl rfl ?_
                refine x_mmax C (v := (if z52_2 < (0 : Int32) then (0 : Int32) else z52_2)) w_992 w_558 w_16 w_559 (Nat.le_of_ble_eq_true rfl) (Nat.le_of_ble_eq_true rfl) (Nat.le_of_ble_eq_true rfl) (Nat.le_of_ble_eq_true rfl) rfl dX11_thefts_123 rfl ?_
                refine x_any (fun v47 => ?_)
                refine x_istore_n C (lv' := [(2, .int v47), (3, .int (nI pp)), (4, .int v44), (6, .int 0), (0, .ref (a 0)), (1, .int (nI j27)), (5, .int (nI pp))]) dX11_thefts_126 rfl (by decide) rfl rfl ?_
                refine x_iinc C (v := (nI (pp + 1))) (lv' := [(5, .int (nI (pp + 1))), (2, .int v47), (3, .int (nI pp)), (4, .int v44), (6, .int 0), (0, .ref (a 0)), (1, .int (nI j27))]) dX11_thefts_127 6 rfl (nI_add pp 1) (by decide) rfl rfl ?_
                refine x_goto C (tgt := 52) dX11_thefts_130 (by decide) ?_
                refine x_lv (lv1 := [(0, .ref (a 0)), (1, .int (nI j27)), (2, .int v47), (3, .int (nI pp)), (4, .int v44), (5, .int (nI (pp + 1)))]) [5, 6, 1, 2, 3, 0] rfl ?_
                exact ih52 v47 ((nI pp)) v44 (pp + 1) trivial (by omega) (by omega)
            · skip
              have wi48 := wth_le (a := 0) (b := 7) (j := pp) (x42 c43) (by omega) (by decide) (by decide)
              refine x_aload_n C dX11_thefts_74 rfl 0 rfl rfl ?_
              refine x_get C (ci := 10) (k := 2) 0 k1 rfl in_X11 (by decide) w_387 rfl dX11_thefts_75 rfl ?_
              refine x_get C (ci := 8) (k := 3) 5 k3 rfl in_X9 (by decide) w_204 rfl dX11_thefts_78 rfl ?_
              refine x_iload C dX11_thefts_81 5 rfl rfl ?_
              refine x_vi C (As := [.int (nI pp)]) (rest := []) (c_People_excess E l a ws hW 5 (Or.inl rfl) pp (by omega)) mf_X5_excess w_1037 9 k11 rfl rfl rfl (Nat.le_of_ble_eq_true rfl) ⟨(Nat.le_of_ble_eq_true rfl), (Nat.le_of_ble_eq_true rfl)⟩ ⟨(Nat.le_of_ble_eq_true rfl), (Nat.le_of_ble_eq_true rfl)⟩ dX11_thefts_83 rfl (fun r50 w51 h49 => ?_)
              have hW52 := h49
              refine x_ws hW52 ?_
              refine x_goto C (tgt := 90) dX11_thefts_86 (by decide) ?_
              refine x_istore C (lv' := [(6, .int r50), (0, .ref (a 0)), (1, .int (nI j27)), (2, .int z52_2), (3, .int z52_3), (4, .int z52_4), (5, .int (nI pp))]) dX11_thefts_90 (by decide) rfl rfl ?_
              refine x_iload C dX11_thefts_92 5 rfl rfl ?_
              refine x_iload C dX11_thefts_94 0 rfl rfl ?_
              refine x_if_le C (tgt := 103) dX11_thefts_96 (by decide) rfl (fun c53 => ?_) (fun c53 => ?_)
              · skip
                refine x_iconst C (v := 0) dX11_thefts_103 (by decide) rfl ?_
                refine x_iadd C (v := (z52_4 + (0 : Int32))) dX11_thefts_104 rfl rfl ?_
                refine x_any (fun v54 => ?_)
                refine x_istore C (lv' := [(4, .int v54), (6, .int r50), (0, .ref (a 0)), (1, .int (nI j27)), (2, .int z52_2), (3, .int z52_3), (5, .int (nI pp))]) dX11_thefts_105 (by decide) rfl rfl ?_
                refine x_iload C dX11_thefts_107 1 rfl rfl ?_
                refine x_iload_n C dX11_thefts_109 rfl 4 rfl rfl ?_
                refine x_icmp_le C (tgt := 118) dX11_thefts_110 (by decide) rfl (fun c55 => ?_) (fun c55 => ?_)
                · skip
                  refine x_iload_n C dX11_thefts_118 rfl 5 rfl rfl ?_
                  refine x_istore_n C (lv' := [(3, .int z52_3), (4, .int v54), (6, .int r50), (0, .ref (a 0)), (1, .int (nI j27)), (2, .int z52_2), (5, .int (nI pp))]) dX11_thefts_119 rfl (by decide) rfl rfl ?_
                  refine x_iload_n C dX11_thefts_120 rfl 5 rfl rfl ?_
                  refine x_iload C dX11_thefts_121 2 rfl rfl ?_
                  refine x_mmax C (v := (if z52_2 < r50 then r50 else z52_2)) w_992 w_558 w_16 w_559 (Nat.le_of_ble_eq_true rfl) (Nat.le_of_ble_eq_true rfl) (Nat.le_of_ble_eq_true rfl) (Nat.le_of_ble_eq_true rfl) rfl dX11_thefts_123 rfl ?_
                  refine x_any (fun v56 => ?_)
                  refine x_istore_n C (lv' := [(2, .int v56), (3, .int z52_3), (4, .int v54), (6, .int r50), (0, .ref (a 0)), (1, .int (nI j27)), (5, .int (nI pp))]) dX11_thefts_126 rfl (by decide) rfl rfl ?_
                  refine x_iinc C (v := (nI (pp + 1))) (lv' := [(5, .int (nI (pp + 1))), (2, .int v56), (3, .int z52_3), (4, .int v54), (6, .int r50), (0, .ref (a 0)), (1, .int (nI j27))]) dX11_thefts_127 6 rfl (nI_add pp 1) (by decide) rfl rfl ?_
                  refine x_goto C (tgt := 52) dX11_thefts_130 (by decide) ?_
                  refine x_lv (lv1 := [(0, .ref (a 0)), (1, .int (nI j27)), (2, .int v56), (3, .int z52_3), (4, .int v54), (5, .int (nI (pp + 1)))]) [5, 6, 1, 2, 3, 0] rfl ?_
                  exact ih52 v56 z52_3 v54 (pp + 1) trivial (by omega) (by omega)
                · skip
                  refine x_iload C dX11_thefts_113 6 rfl rfl ?_
                  refine x_goto C (tgt := 119) dX11_thefts_115 (by decide) ?_
                  refine x_istore_n C (lv' := [(3, .int (nI pp)), (4, .int v54), (6, .int r50), (0, .ref (a 0)), (1, .int (nI j27)), (2, .int z52_2), (5, .int (nI pp))]) dX11_thefts_119 rfl (by decide) rfl rfl ?_
                  refine x_iload_n C dX11_thefts_120 rfl 5 rfl rfl ?_
                  refine x_iload C dX11_thefts_121 2 rfl rfl ?_
                  refine x_mmax C (v := (if z52_2 < r50 then r50 else z52_2)) w_992 w_558 w_16 w_559 (Nat.le_of_ble_eq_true rfl) (Nat.le_of_ble_eq_true rfl) (Nat.le_of_ble_eq_true rfl) (Nat.le_of_ble_eq_true rfl) rfl dX11_thefts_123 rfl ?_
                  refine x_any (fun v57 => ?_)
                  refine x_istore_n C (lv' := [(2, .int v57), (3, .int (nI pp)), (4, .int v54), (6, .int r50), (0, .ref (a 0)), (1, .int (nI j27)), (5, .int (nI pp))]) dX11_thefts_126 rfl (by decide) rfl rfl ?_
                  refine x_iinc C (v := (nI (pp + 1))) (lv' := [(5, .int (nI (pp + 1))), (2, .int v57), (3, .int (nI pp)), (4, .int v54), (6, .int r50), (0, .ref (a 0)), (1, .int (nI j27))]) dX11_thefts_127 6 rfl (nI_add pp 1) (by decide) rfl rfl ?_
                  refine x_goto C (tgt := 52) dX11_thefts_130 (by decide) ?_
                  refine x_lv (lv1 := [(0, .ref (a 0)), (1, .int (nI j27)), (2, .int v57), (3, .int (nI pp)), (4, .int v54), (5, .int (nI (pp + 1)))]) [5, 6, 1, 2, 3, 0] rfl ?_
                  exact ih52 v57 ((nI pp)) v54 (pp + 1) trivial (by omega) (by omega)
              · skip
                obtain ⟨j58, hj59, ej60⟩ := nI_of (fun q => c53 (Int32.le_of_lt q))
                subst ej60
                refine x_iconst C (v := 1) dX11_thefts_99 (by decide) rfl ?_
                refine x_goto C (tgt := 104) dX11_thefts_100 (by decide) ?_
                refine x_iadd C (v := (z52_4 + (1 : Int32))) dX11_thefts_104 rfl rfl ?_
                refine x_any (fun v61 => ?_)
                refine x_istore C (lv' := [(4, .int v61), (6, .int (nI j58)), (0, .ref (a 0)), (1, .int (nI j27)), (2, .int z52_2), (3, .int z52_3), (5, .int (nI pp))]) dX11_thefts_105 (by decide) rfl rfl ?_
                refine x_iload C dX11_thefts_107 1 rfl rfl ?_
                refine x_iload_n C dX11_thefts_109 rfl 4 rfl rfl ?_
                refine x_icmp_le C (tgt := 118) dX11_thefts_110 (by decide) rfl (fun c62 => ?_) (fun c62 => ?_)
                · skip
                  refine x_iload_n C dX11_thefts_118 rfl 5 rfl rfl ?_
                  refine x_istore_n C (lv' := [(3, .int z52_3), (4, .int v61), (6, .int (nI j58)), (0, .ref (a 0)), (1, .int (nI j27)), (2, .int z52_2), (5, .int (nI pp))]) dX11_thefts_119 rfl (by decide) rfl rfl ?_
                  refine x_iload_n C dX11_thefts_120 rfl 5 rfl rfl ?_
                  refine x_iload C dX11_thefts_121 2 rfl rfl ?_
                  refine x_mmax C (v := (if z52_2 < (nI j58) then (nI j58) else z52_2)) w_992 w_558 w_16 w_559 (Nat.le_of_ble_eq_true rfl) (Nat.le_of_ble_eq_true rfl) (Nat.le_of_ble_eq_true rfl) (Nat.le_of_ble_eq_true rfl) rfl dX11_thefts_123 rfl ?_
                  refine x_any (fun v63 => ?_)
                  refine x_istore_n C (lv' := [(2, .int v63), (3, .int z52_3), (4, .int v61), (6, .int (nI j58)), (0, .ref (a 0)), (1, .int (nI j27)), (5, .int (nI pp))]) dX11_thefts_126 rfl (by decide) rfl rfl ?_
                  refine x_iinc C (v := (nI (pp + 1))) (lv' := [(5, .int (nI (pp + 1))), (2, .int v63), (3, .int z52_3), (4, .int v61), (6, .int (nI j58)), (0, .ref (a 0)), (1, .int (nI j27))]) dX11_thefts_127 6 rfl (nI_add pp 1) (by decide) rfl rfl ?_
                  refine x_goto C (tgt := 52) dX11_thefts_130 (by decide) ?_
                  refine x_lv (lv1 := [(0, .ref (a 0)), (1, .int (nI j27)), (2, .int v63), (3, .int z52_3), (4, .int v61), (5, .int (nI (pp + 1)))]) [5, 6, 1, 2, 3, 0] rfl ?_
                  exact ih52 v63 z52_3 v61 (pp + 1) trivial (by omega) (by omega)
                · skip
                  refine x_iload C dX11_thefts_113 6 rfl rfl ?_
                  refine x_goto C (tgt := 119) dX11_thefts_115 (by decide) ?_
                  refine x_istore_n C (lv' := [(3, .int (nI pp)), (4, .int v61), (6, .int (nI j58)), (0, .ref (a 0)), (1, .int (nI j27)), (2, .int z52_2), (5, .int (nI pp))]) dX11_thefts_119 rfl (by decide) rfl rfl ?_
                  refine x_iload_n C dX11_thefts_120 rfl 5 rfl rfl ?_
                  refine x_iload C dX11_thefts_121 2 rfl rfl ?_
                  refine x_mmax C (v := (if z52_2 < (nI j58) then (nI j58) else z52_2)) w_992 w_558 w_16 w_559 (Nat.le_of_ble_eq_true rfl) (Nat.le_of_ble_eq_true rfl) (Nat.le_of_ble_eq_true rfl) (Nat.le_of_ble_eq_true rfl) rfl dX11_thefts_123 rfl ?_
                  refine x_any (fun v64 => ?_)
                  refine x_istore_n C (lv' := [(2, .int v64), (3, .int (nI pp)), (4, .int v61), (6, .int (nI j58)), (0, .ref (a 0)), (1, .int (nI j27)), (5, .int (nI pp))]) dX11_thefts_126 rfl (by decide) rfl rfl ?_
                  refine x_iinc C (v := (nI (pp + 1))) (lv' := [(5, .int (nI (pp + 1))), (2, .int v64), (3, .int (nI pp)), (4, .int v61), (6, .int (nI j58)), (0, .ref (a 0)), (1, .int (nI j27))]) dX11_thefts_127 6 rfl (nI_add pp 1) (by decide) rfl rfl ?_
                  refine x_goto C (tgt := 52) dX11_thefts_130 (by decide) ?_
                  refine x_lv (lv1 := [(0, .ref (a 0)), (1, .int (nI j27)), (2, .int v64), (3, .int (nI pp)), (4, .int v61), (5, .int (nI (pp + 1)))]) [5, 6, 1, 2, 3, 0] rfl ?_
                  exact ih52 v64 ((nI pp)) v61 (pp + 1) trivial (by omega) (by omega)
      refine x_lv (lv1 := [(0, .ref (a 0)), (1, .int (nI j27)), (2, .int 0), (3, .int (-2)), (4, .int 0), (5, .int 0)]) [4, 5, 3, 2, 1, 0] rfl ?_
      exact loop52 _ (0 : Int32) ((-2) : Int32) (0 : Int32) 0 trivial (Nat.lt_succ_self _) (by omega)
    · skip
      refine x_ldcw C w_1041 dX11_thefts_37 rfl ?_
      exact x_zret C hr hlk rfl dX11_thefts_40 ⟨hW, kp0⟩
  · skip
    obtain ⟨j65, hl66, hh67, ej68⟩ := w_nat (a := 0) (b := 7) (by decide) (by decide) (x18 c19)
    subst ej68
    refine x_aload_n C dX11_thefts_14 rfl 0 rfl rfl ?_
    refine x_get C (ci := 10) (k := 2) 0 k1 rfl in_X11 (by decide) w_387 rfl dX11_thefts_15 rfl ?_
    refine x_get C (ci := 8) (k := 3) 5 k3 rfl in_X9 (by decide) w_204 rfl dX11_thefts_18 rfl ?_
    refine x_iload_n C dX11_thefts_21 rfl 1 rfl rfl ?_
    refine x_vi C (As := [.int (nI j65)]) (rest := []) (c_People_excess E l a ws hW 5 (Or.inl rfl) j65 (by omega)) mf_X5_excess w_1037 9 k11 rfl rfl rfl (Nat.le_of_ble_eq_true rfl) ⟨(Nat.le_of_ble_eq_true rfl), (Nat.le_of_ble_eq_true rfl)⟩ ⟨(Nat.le_of_ble_eq_true rfl), (Nat.le_of_ble_eq_true rfl)⟩ dX11_thefts_22 rfl (fun r70 w71 h69 => ?_)
    have hW72 := h69
    refine x_ws hW72 ?_
    exact x_zret C hr hlk rfl dX11_thefts_25 ⟨hW, kp0⟩
theorem dX11_baskets_0 : decode cX11_baskets 0 = .ok (.aload_n 0, 1) := by decide +kernel
theorem dX11_baskets_1 : decode cX11_baskets 1 = .ok (.getfield 22, 3) := by decide +kernel
theorem dX11_baskets_4 : decode cX11_baskets 4 = .ok (.getfield 92, 3) := by decide +kernel
theorem dX11_baskets_7 : decode cX11_baskets 7 = .ok (.iload_n 1, 1) := by decide +kernel
theorem dX11_baskets_8 : decode cX11_baskets 8 = .ok (.invokevirtual 106, 3) := by decide +kernel
theorem dX11_baskets_11 : decode cX11_baskets 11 = .ok (.ifCond .eq 23, 3) := by decide +kernel
theorem dX11_baskets_14 : decode cX11_baskets 14 = .ok (.iload_n 2, 1) := by decide +kernel
theorem dX11_baskets_15 : decode cX11_baskets 15 = .ok (.iconst 0, 1) := by decide +kernel
theorem dX11_baskets_16 : decode cX11_baskets 16 = .ok (.sipush 9999, 3) := by decide +kernel
theorem dX11_baskets_19 : decode cX11_baskets 19 = .ok (.invokestatic 102, 3) := by decide +kernel
theorem dX11_baskets_22 : decode cX11_baskets 22 = .ok (.ifCond .eq 12, 3) := by decide +kernel
theorem dX11_baskets_25 : decode cX11_baskets 25 = .ok (.iload_n 3, 1) := by decide +kernel
theorem dX11_baskets_26 : decode cX11_baskets 26 = .ok (.iconst 0, 1) := by decide +kernel
theorem dX11_baskets_27 : decode cX11_baskets 27 = .ok (.iconst 1, 1) := by decide +kernel
theorem dX11_baskets_28 : decode cX11_baskets 28 = .ok (.invokestatic 102, 3) := by decide +kernel
theorem dX11_baskets_31 : decode cX11_baskets 31 = .ok (.ifCond .ne 5, 3) := by decide +kernel
theorem dX11_baskets_34 : decode cX11_baskets 34 = .ok (.iconst (-1), 1) := by decide +kernel
theorem dX11_baskets_35 : decode cX11_baskets 35 = .ok (.ireturn, 1) := by decide +kernel
theorem dX11_baskets_36 : decode cX11_baskets 36 = .ok (.aload_n 0, 1) := by decide +kernel
theorem dX11_baskets_37 : decode cX11_baskets 37 = .ok (.getfield 22, 3) := by decide +kernel
theorem dX11_baskets_40 : decode cX11_baskets 40 = .ok (.getfield 132, 3) := by decide +kernel
theorem dX11_baskets_43 : decode cX11_baskets 43 = .ok (.iload_n 1, 1) := by decide +kernel
theorem dX11_baskets_44 : decode cX11_baskets 44 = .ok (.aload_n 0, 1) := by decide +kernel
theorem dX11_baskets_45 : decode cX11_baskets 45 = .ok (.getfield 67, 3) := by decide +kernel
theorem dX11_baskets_48 : decode cX11_baskets 48 = .ok (.bipush 12, 2) := by decide +kernel
theorem dX11_baskets_50 : decode cX11_baskets 50 = .ok (.invokevirtual 247, 3) := by decide +kernel
theorem dX11_baskets_53 : decode cX11_baskets 53 = .ok (.istore 4, 2) := by decide +kernel
theorem dX11_baskets_55 : decode cX11_baskets 55 = .ok (.aload_n 0, 1) := by decide +kernel
theorem dX11_baskets_56 : decode cX11_baskets 56 = .ok (.getfield 63, 3) := by decide +kernel
theorem dX11_baskets_59 : decode cX11_baskets 59 = .ok (.aload_n 0, 1) := by decide +kernel
theorem dX11_baskets_60 : decode cX11_baskets 60 = .ok (.getfield 22, 3) := by decide +kernel
theorem dX11_baskets_63 : decode cX11_baskets 63 = .ok (.getfield 132, 3) := by decide +kernel
theorem dX11_baskets_66 : decode cX11_baskets 66 = .ok (.aload_n 0, 1) := by decide +kernel
theorem dX11_baskets_67 : decode cX11_baskets 67 = .ok (.getfield 67, 3) := by decide +kernel
theorem dX11_baskets_70 : decode cX11_baskets 70 = .ok (.iload 4, 2) := by decide +kernel
theorem dX11_baskets_72 : decode cX11_baskets 72 = .ok (.invokevirtual 349, 3) := by decide +kernel
theorem dX11_baskets_75 : decode cX11_baskets 75 = .ok (.pop, 1) := by decide +kernel
theorem dX11_baskets_76 : decode cX11_baskets 76 = .ok (.aload_n 0, 1) := by decide +kernel
theorem dX11_baskets_77 : decode cX11_baskets 77 = .ok (.getfield 63, 3) := by decide +kernel
theorem dX11_baskets_80 : decode cX11_baskets 80 = .ok (.iload_n 2, 1) := by decide +kernel
theorem dX11_baskets_81 : decode cX11_baskets 81 = .ok (.invokevirtual 353, 3) := by decide +kernel
theorem dX11_baskets_84 : decode cX11_baskets 84 = .ok (.iload_n 3, 1) := by decide +kernel
theorem dX11_baskets_85 : decode cX11_baskets 85 = .ok (.ifCond .ne 13, 3) := by decide +kernel
theorem dX11_baskets_88 : decode cX11_baskets 88 = .ok (.aload_n 0, 1) := by decide +kernel
theorem dX11_baskets_89 : decode cX11_baskets 89 = .ok (.getfield 63, 3) := by decide +kernel
theorem dX11_baskets_92 : decode cX11_baskets 92 = .ok (.getfield 355, 3) := by decide +kernel
theorem dX11_baskets_95 : decode cX11_baskets 95 = .ok (.goto 10, 3) := by decide +kernel
theorem dX11_baskets_98 : decode cX11_baskets 98 = .ok (.aload_n 0, 1) := by decide +kernel
theorem dX11_baskets_99 : decode cX11_baskets 99 = .ok (.getfield 63, 3) := by decide +kernel
theorem dX11_baskets_102 : decode cX11_baskets 102 = .ok (.getfield 365, 3) := by decide +kernel
theorem dX11_baskets_105 : decode cX11_baskets 105 = .ok (.ireturn, 1) := by decide +kernel
set_option maxRecDepth 20000 in
set_option maxHeartbeats 4000000 in
theorem c_baskets (E : xE) (l : Launch) (a : Nat → Nat) (ws : va_W) (hW : WX (okX E a) ws) (p0 : Int32) (p1 : Int32) (p2 : Int32) : xI E l yX11_baskets cX11_baskets 5 (some .int) 8 [.ref (a 0), .int p0, .int p1, .int p2] ws (fun r w => WX (okX E a) w ∧ keeps ws w (fun q => ¬ (q = 0 ∨ q = 6 ∨ q = 9 ∨ q = 28 ∨ q = 31))) := by
  refine xI_start (lv := [(0, .ref (a 0)), (1, .int p0), (2, .int p1), (3, .int p2)]) RX11 (by decide) rfl (Nat.le_of_ble_eq_true rfl) rfl (fun p e s m below meth c A C hr hlk => ?_)
  have kp0 : keeps ws ws (fun q => ¬ (q = 0 ∨ q = 6 ∨ q = 9 ∨ q = 28 ∨ q = 31)) := keeps_rf
  refine x_aload_n C dX11_baskets_0 rfl 0 rfl rfl ?_
  obtain ⟨_, k1, v2, rfl⟩ := hW 0 _ rfl
  refine x_get C (ci := 10) (k := 2) 0 k1 rfl in_X11 (by decide) w_387 rfl dX11_baskets_1 rfl ?_
  obtain ⟨_, k3, n4, v6, v7, v8, v9, v10, bn5, rfl⟩ := hW 5 _ rfl
  refine x_get C (ci := 8) (k := 3) 5 k3 rfl in_X9 (by decide) w_204 rfl dX11_baskets_4 rfl ?_
  refine x_iload_n C dX11_baskets_7 rfl 1 rfl rfl ?_
  obtain ⟨_, k11, v12, rfl⟩ := hW 9 _ rfl
  refine x_vi C (As := [.int p0]) (rest := []) (c_People_isTold E l a ws hW 5 (Or.inl rfl) p0) mf_X5_isTold w_465 9 k11 rfl rfl rfl (Nat.le_of_ble_eq_true rfl) ⟨(Nat.le_of_ble_eq_true rfl), (Nat.le_of_ble_eq_true rfl)⟩ ⟨(Nat.le_of_ble_eq_true rfl), (Nat.le_of_ble_eq_true rfl)⟩ dX11_baskets_8 rfl (fun r14 w15 h13 => ?_)
  obtain ⟨hW16, zb17, x18⟩ := h13
  refine x_ws hW16 ?_
  refine x_if_eq C (tgt := 34) dX11_baskets_11 (by decide) rfl (fun c19 => ?_) (fun c19 => ?_)
  · skip
    refine x_iconst C (v := (-1)) dX11_baskets_34 (by decide) rfl ?_
    exact x_zret C hr hlk rfl dX11_baskets_35 ⟨hW, kp0⟩
  · skip
    obtain ⟨j20, hl21, hh22, ej23⟩ := w_nat (a := 0) (b := 7) (by decide) (by decide) (x18 c19)
    subst ej23
    refine x_iload_n C dX11_baskets_14 rfl 2 rfl rfl ?_
    refine x_iconst C (v := 0) dX11_baskets_15 (by decide) rfl ?_
    refine x_sipush C (v := 9999) dX11_baskets_16 (by decide) rfl ?_
    refine x_si C (As := [.int p1, .int 0, .int 9999]) (rest := []) (c_isWithin E l a ws hW p1 (0 : Int32) (9999 : Int32)) mf_X11_isWithin w_462 rfl rfl (Nat.le_of_ble_eq_true rfl) ⟨(Nat.le_of_ble_eq_true rfl), (Nat.le_of_ble_eq_true rfl)⟩ ⟨(Nat.le_of_ble_eq_true rfl), (Nat.le_of_ble_eq_true rfl)⟩ dX11_baskets_19 rfl (fun r25 w26 h24 => ?_)
    obtain ⟨hW27, zb28, x29⟩ := h24
    refine x_ws hW27 ?_
    refine x_if_eq C (tgt := 34) dX11_baskets_22 (by decide) rfl (fun c30 => ?_) (fun c30 => ?_)
    · skip
      refine x_iconst C (v := (-1)) dX11_baskets_34 (by decide) rfl ?_
      exact x_zret C hr hlk rfl dX11_baskets_35 ⟨hW, kp0⟩
    · skip
      obtain ⟨j31, hl32, hh33, ej34⟩ := w_nat (a := 0) (b := 9999) (by decide) (by decide) (x29 c30)
      subst ej34
      refine x_iload_n C dX11_baskets_25 rfl 3 rfl rfl ?_
      refine x_iconst C (v := 0) dX11_baskets_26 (by decide) rfl ?_
      refine x_iconst C (v := 1) dX11_baskets_27 (by decide) rfl ?_
      refine x_si C (As := [.int p2, .int 0, .int 1]) (rest := []) (c_isWithin E l a ws hW p2 (0 : Int32) (1 : Int32)) mf_X11_isWithin w_462 rfl rfl (Nat.le_of_ble_eq_true rfl) ⟨(Nat.le_of_ble_eq_true rfl), (Nat.le_of_ble_eq_true rfl)⟩ ⟨(Nat.le_of_ble_eq_true rfl), (Nat.le_of_ble_eq_true rfl)⟩ dX11_baskets_28 rfl (fun r36 w37 h35 => ?_)
      obtain ⟨hW38, zb39, x40⟩ := h35
      refine x_ws hW38 ?_
      refine x_if_ne C (tgt := 36) dX11_baskets_31 (by decide) rfl (fun c41 => ?_) (fun c41 => ?_)
      · skip
        obtain ⟨j42, hl43, hh44, ej45⟩ := w_nat (a := 0) (b := 1) (by decide) (by decide) (x40 c41)
        subst ej45
        refine x_aload_n C dX11_baskets_36 rfl 0 rfl rfl ?_
        refine x_get C (ci := 10) (k := 2) 0 k1 rfl in_X11 (by decide) w_387 rfl dX11_baskets_37 rfl ?_
        refine x_get C (ci := 8) (k := 4) 5 k3 rfl in_X9 (by decide) w_209 rfl dX11_baskets_40 rfl ?_
        refine x_iload_n C dX11_baskets_43 rfl 1 rfl rfl ?_
        refine x_aload_n C dX11_baskets_44 rfl 0 rfl rfl ?_
        refine x_get C (ci := 10) (k := 11) 0 k1 rfl in_X11 (by decide) w_396 rfl dX11_baskets_45 rfl ?_
        refine x_bipush C (v := 12) dX11_baskets_48 (by decide) rfl ?_
        obtain ⟨_, k46, n47, bn48, rfl⟩ := hW 14 _ rfl
        refine x_vi C (As := [.int (nI j20), .ref (a 105), .int 12]) (rest := []) (c_wholeOfB12 E l a ws hW 5 (Or.inl rfl) ((nI j20))) mf_X1_wholeOf w_871 14 k46 rfl rfl rfl (Nat.le_of_ble_eq_true rfl) ⟨(Nat.le_of_ble_eq_true rfl), (Nat.le_of_ble_eq_true rfl)⟩ ⟨(Nat.le_of_ble_eq_true rfl), (Nat.le_of_ble_eq_true rfl)⟩ dX11_baskets_50 rfl (fun r50 w51 h49 => ?_)
        obtain ⟨hW52, kq53, ⟨m55, bm56, e54⟩⟩ := h49
        refine x_top e54 ?_
        have k57 : w51[0]? = some (ob (a 0) 10 [.ref (a 1), .ref (a 3), .ref (a 5), .ref (a 27), .ref (a 49), .int v2, .ref (a 71), .ref (a 79), .ref (a 87), .ref (a 92), .ref (a 103), .ref (a 105), .ref (a 106), .ref (a 107), .ref (a 108), .ref (a 109), .ref (a 110), .ref (a 111), .ref (a 112)]) := keeps_at kq53 k1 (by first | decide | omega | (dsimp only; omega))
        have k58 : w51[5]? = some (ob (a 5) 8 [.int (nI n4), .int v6, .ref (a 6), .ref (a 9), .ref (a 14), .ref (a 21), .int v7, .int v8, .int v9, .int v10]) := keeps_at kq53 k3 (by first | decide | omega | (dsimp only; omega))
        have k59 : w51[9]? = some (ob (a 9) 4 [.int v12, .ref (a 10), .ref (a 11), .ref (a 12), .ref (a 13)]) := keeps_at kq53 k11 (by first | decide | omega | (dsimp only; omega))
        have k60 : w51[14]? = some (ob (a 14) 1 [.int (nI n47), .ref (a 15), .ref (a 16), .ref (a 17), .ref (a 18), .ref (a 19), .ref (a 20)]) := keeps_at kq53 k46 (by first | decide | omega | (dsimp only; omega))
        have kp61 := keeps_tr kp0 kq53 (fun q hq => by first | omega | (dsimp only at *; omega))
        refine x_istore C (lv' := [(4, .int (nI m55)), (0, .ref (a 0)), (1, .int (nI j20)), (2, .int (nI j31)), (3, .int (nI j42))]) dX11_baskets_53 (by decide) rfl rfl ?_
        refine x_aload_n C dX11_baskets_55 rfl 1 rfl rfl ?_
        refine x_get C (ci := 10) (k := 10) 0 k57 rfl in_X11 (by decide) w_395 rfl dX11_baskets_56 rfl ?_
        refine x_aload_n C dX11_baskets_59 rfl 1 rfl rfl ?_
        refine x_get C (ci := 10) (k := 2) 0 k57 rfl in_X11 (by decide) w_387 rfl dX11_baskets_60 rfl ?_
        refine x_get C (ci := 8) (k := 4) 5 k58 rfl in_X9 (by decide) w_209 rfl dX11_baskets_63 rfl ?_
        refine x_aload_n C dX11_baskets_66 rfl 1 rfl rfl ?_
        refine x_get C (ci := 10) (k := 11) 0 k57 rfl in_X11 (by decide) w_396 rfl dX11_baskets_67 rfl ?_
        refine x_iload C dX11_baskets_70 0 rfl rfl ?_
        obtain ⟨_, k62, v63, v64, v65, n66, bn67, rfl⟩ := hW52 103 _ rfl
        refine x_vi C (As := [.ref (a 14), .ref (a 105), .int (nI m55)]) (rest := []) (c_fill E l a w51 hW52 m55 (by omega)) mf_X7_fill w_1018 103 k62 rfl rfl rfl (Nat.le_of_ble_eq_true rfl) ⟨(Nat.le_of_ble_eq_true rfl), (Nat.le_of_ble_eq_true rfl)⟩ ⟨(Nat.le_of_ble_eq_true rfl), (Nat.le_of_ble_eq_true rfl)⟩ dX11_baskets_72 rfl (fun r69 w70 h68 => ?_)
        obtain ⟨hW71, kq72⟩ := h68
        have k73 : w70[0]? = some (ob (a 0) 10 [.ref (a 1), .ref (a 3), .ref (a 5), .ref (a 27), .ref (a 49), .int v2, .ref (a 71), .ref (a 79), .ref (a 87), .ref (a 92), .ref (a 103), .ref (a 105), .ref (a 106), .ref (a 107), .ref (a 108), .ref (a 109), .ref (a 110), .ref (a 111), .ref (a 112)]) := keeps_at kq72 k57 (by first | decide | omega | (dsimp only; omega))
        have k74 : w70[5]? = some (ob (a 5) 8 [.int (nI n4), .int v6, .ref (a 6), .ref (a 9), .ref (a 14), .ref (a 21), .int v7, .int v8, .int v9, .int v10]) := keeps_at kq72 k58 (by first | decide | omega | (dsimp only; omega))
        have k75 : w70[9]? = some (ob (a 9) 4 [.int v12, .ref (a 10), .ref (a 11), .ref (a 12), .ref (a 13)]) := keeps_at kq72 k59 (by first | decide | omega | (dsimp only; omega))
        have k76 : w70[14]? = some (ob (a 14) 1 [.int (nI n47), .ref (a 15), .ref (a 16), .ref (a 17), .ref (a 18), .ref (a 19), .ref (a 20)]) := keeps_at kq72 k60 (by first | decide | omega | (dsimp only; omega))
        have kp77 := keeps_tr kp61 kq72 (fun q hq => by first | omega | (dsimp only at *; omega))
        refine x_pop C dX11_baskets_75 rfl rfl ?_
        refine x_aload_n C dX11_baskets_76 rfl 1 rfl rfl ?_
        refine x_get C (ci := 10) (k := 10) 0 k73 rfl in_X11 (by decide) w_395 rfl dX11_baskets_77 rfl ?_
        refine x_iload_n C dX11_baskets_80 rfl 3 rfl rfl ?_
        obtain ⟨_, k78, v79, v80, v81, n82, bn83, rfl⟩ := hW71 103 _ rfl
        refine x_vv C (As := [.int (nI j31)]) (rest := []) (c_find E l a w70 hW71 ((nI j31))) mf_X7_find w_1024 103 k78 rfl rfl rfl (Nat.le_of_ble_eq_true rfl) ⟨(Nat.le_of_ble_eq_true rfl), (Nat.le_of_ble_eq_true rfl)⟩ ⟨(Nat.le_of_ble_eq_true rfl), (Nat.le_of_ble_eq_true rfl)⟩ dX11_baskets_81 rfl (fun w86 h84 => ?_)
        obtain ⟨hW87, kq88⟩ := h84
        have k89 : w86[0]? = some (ob (a 0) 10 [.ref (a 1), .ref (a 3), .ref (a 5), .ref (a 27), .ref (a 49), .int v2, .ref (a 71), .ref (a 79), .ref (a 87), .ref (a 92), .ref (a 103), .ref (a 105), .ref (a 106), .ref (a 107), .ref (a 108), .ref (a 109), .ref (a 110), .ref (a 111), .ref (a 112)]) := keeps_at kq88 k73 (by first | decide | omega | (dsimp only; omega))
        have k90 : w86[5]? = some (ob (a 5) 8 [.int (nI n4), .int v6, .ref (a 6), .ref (a 9), .ref (a 14), .ref (a 21), .int v7, .int v8, .int v9, .int v10]) := keeps_at kq88 k74 (by first | decide | omega | (dsimp only; omega))
        have k91 : w86[9]? = some (ob (a 9) 4 [.int v12, .ref (a 10), .ref (a 11), .ref (a 12), .ref (a 13)]) := keeps_at kq88 k75 (by first | decide | omega | (dsimp only; omega))
        have k92 : w86[14]? = some (ob (a 14) 1 [.int (nI n47), .ref (a 15), .ref (a 16), .ref (a 17), .ref (a 18), .ref (a 19), .ref (a 20)]) := keeps_at kq88 k76 (by first | decide | omega | (dsimp only; omega))
        have kp93 := keeps_tr kp77 kq88 (fun q hq => by first | omega | (dsimp only at *; omega))
        refine x_iload_n C dX11_baskets_84 rfl 4 rfl rfl ?_
        refine x_if_ne C (tgt := 98) dX11_baskets_85 (by decide) rfl (fun c94 => ?_) (fun c94 => ?_)
        · skip
          have nf95 : ¬ j42 = 0 := fun q => c94 (congrArg nI q)
          refine x_aload_n C dX11_baskets_98 rfl 1 rfl rfl ?_
          refine x_get C (ci := 10) (k := 10) 0 k89 rfl in_X11 (by decide) w_395 rfl dX11_baskets_99 rfl ?_
          obtain ⟨_, k96, v97, v98, v99, n100, bn101, rfl⟩ := hW87 103 _ rfl
          refine x_get C (ci := 6) (k := 2) 103 k96 rfl in_X7 (by decide) w_371 rfl dX11_baskets_102 rfl ?_
          exact x_zret C hr hlk rfl dX11_baskets_105 ⟨hW87, kp93⟩
        · skip
          have nf102 : j42 = 0 := (nI_eq (by omega) (by omega)).mp c94
          refine x_aload_n C dX11_baskets_88 rfl 1 rfl rfl ?_
          refine x_get C (ci := 10) (k := 10) 0 k89 rfl in_X11 (by decide) w_395 rfl dX11_baskets_89 rfl ?_
          obtain ⟨_, k103, v104, v105, v106, n107, bn108, rfl⟩ := hW87 103 _ rfl
          refine x_get C (ci := 6) (k := 0) 103 k103 rfl in_X7 (by decide) w_367 rfl dX11_baskets_92 rfl ?_
          refine x_goto C (tgt := 105) dX11_baskets_95 (by decide) ?_
          exact x_zret C hr hlk rfl dX11_baskets_105 ⟨hW87, kp93⟩
      · skip
        refine x_iconst C (v := (-1)) dX11_baskets_34 (by decide) rfl ?_
        exact x_zret C hr hlk rfl dX11_baskets_35 ⟨hW, kp0⟩
theorem dX11_latest_0 : decode cX11_latest 0 = .ok (.aload_n 0, 1) := by decide +kernel
theorem dX11_latest_1 : decode cX11_latest 1 = .ok (.getfield 22, 3) := by decide +kernel
theorem dX11_latest_4 : decode cX11_latest 4 = .ok (.getfield 123, 3) := by decide +kernel
theorem dX11_latest_7 : decode cX11_latest 7 = .ok (.iload_n 1, 1) := by decide +kernel
theorem dX11_latest_8 : decode cX11_latest 8 = .ok (.invokevirtual 257, 3) := by decide +kernel
theorem dX11_latest_11 : decode cX11_latest 11 = .ok (.ifCond .eq 14, 3) := by decide +kernel
theorem dX11_latest_14 : decode cX11_latest 14 = .ok (.iload_n 2, 1) := by decide +kernel
theorem dX11_latest_15 : decode cX11_latest 15 = .ok (.iconst 1, 1) := by decide +kernel
theorem dX11_latest_16 : decode cX11_latest 16 = .ok (.sipush 999, 3) := by decide +kernel
theorem dX11_latest_19 : decode cX11_latest 19 = .ok (.invokestatic 102, 3) := by decide +kernel
theorem dX11_latest_22 : decode cX11_latest 22 = .ok (.ifCond .ne 5, 3) := by decide +kernel
theorem dX11_latest_25 : decode cX11_latest 25 = .ok (.iconst (-1), 1) := by decide +kernel
theorem dX11_latest_26 : decode cX11_latest 26 = .ok (.ireturn, 1) := by decide +kernel
theorem dX11_latest_27 : decode cX11_latest 27 = .ok (.aload_n 0, 1) := by decide +kernel
theorem dX11_latest_28 : decode cX11_latest 28 = .ok (.getfield 22, 3) := by decide +kernel
theorem dX11_latest_31 : decode cX11_latest 31 = .ok (.getfield 123, 3) := by decide +kernel
theorem dX11_latest_34 : decode cX11_latest 34 = .ok (.iload_n 1, 1) := by decide +kernel
theorem dX11_latest_35 : decode cX11_latest 35 = .ok (.invokevirtual 270, 3) := by decide +kernel
theorem dX11_latest_38 : decode cX11_latest 38 = .ok (.ifCond .eq 6, 3) := by decide +kernel
theorem dX11_latest_41 : decode cX11_latest 41 = .ok (.bipush (-3), 2) := by decide +kernel
theorem dX11_latest_43 : decode cX11_latest 43 = .ok (.ireturn, 1) := by decide +kernel
theorem dX11_latest_44 : decode cX11_latest 44 = .ok (.aload_n 0, 1) := by decide +kernel
theorem dX11_latest_45 : decode cX11_latest 45 = .ok (.getfield 22, 3) := by decide +kernel
theorem dX11_latest_48 : decode cX11_latest 48 = .ok (.getfield 123, 3) := by decide +kernel
theorem dX11_latest_51 : decode cX11_latest 51 = .ok (.getfield 258, 3) := by decide +kernel
theorem dX11_latest_54 : decode cX11_latest 54 = .ok (.iload_n 1, 1) := by decide +kernel
theorem dX11_latest_55 : decode cX11_latest 55 = .ok (.iaload, 1) := by decide +kernel
theorem dX11_latest_56 : decode cX11_latest 56 = .ok (.aload_n 0, 1) := by decide +kernel
theorem dX11_latest_57 : decode cX11_latest 57 = .ok (.getfield 22, 3) := by decide +kernel
theorem dX11_latest_60 : decode cX11_latest 60 = .ok (.getfield 123, 3) := by decide +kernel
theorem dX11_latest_63 : decode cX11_latest 63 = .ok (.getfield 261, 3) := by decide +kernel
theorem dX11_latest_66 : decode cX11_latest 66 = .ok (.iload_n 1, 1) := by decide +kernel
theorem dX11_latest_67 : decode cX11_latest 67 = .ok (.iaload, 1) := by decide +kernel
theorem dX11_latest_68 : decode cX11_latest 68 = .ok (.isub, 1) := by decide +kernel
theorem dX11_latest_69 : decode cX11_latest 69 = .ok (.istore_n 3, 1) := by decide +kernel
theorem dX11_latest_70 : decode cX11_latest 70 = .ok (.aload_n 0, 1) := by decide +kernel
theorem dX11_latest_71 : decode cX11_latest 71 = .ok (.getfield 22, 3) := by decide +kernel
theorem dX11_latest_74 : decode cX11_latest 74 = .ok (.getfield 123, 3) := by decide +kernel
theorem dX11_latest_77 : decode cX11_latest 77 = .ok (.getfield 267, 3) := by decide +kernel
theorem dX11_latest_80 : decode cX11_latest 80 = .ok (.iload_n 1, 1) := by decide +kernel
theorem dX11_latest_81 : decode cX11_latest 81 = .ok (.iaload, 1) := by decide +kernel
theorem dX11_latest_82 : decode cX11_latest 82 = .ok (.iconst 1, 1) := by decide +kernel
theorem dX11_latest_83 : decode cX11_latest 83 = .ok (.iadd, 1) := by decide +kernel
theorem dX11_latest_84 : decode cX11_latest 84 = .ok (.iload_n 3, 1) := by decide +kernel
theorem dX11_latest_85 : decode cX11_latest 85 = .ok (.iload_n 2, 1) := by decide +kernel
theorem dX11_latest_86 : decode cX11_latest 86 = .ok (.iadd, 1) := by decide +kernel
theorem dX11_latest_87 : decode cX11_latest 87 = .ok (.iconst 1, 1) := by decide +kernel
theorem dX11_latest_88 : decode cX11_latest 88 = .ok (.isub, 1) := by decide +kernel
theorem dX11_latest_89 : decode cX11_latest 89 = .ok (.iload_n 2, 1) := by decide +kernel
theorem dX11_latest_90 : decode cX11_latest 90 = .ok (.idiv, 1) := by decide +kernel
theorem dX11_latest_91 : decode cX11_latest 91 = .ok (.isub, 1) := by decide +kernel
theorem dX11_latest_92 : decode cX11_latest 92 = .ok (.istore 4, 2) := by decide +kernel
theorem dX11_latest_94 : decode cX11_latest 94 = .ok (.iload 4, 2) := by decide +kernel
theorem dX11_latest_96 : decode cX11_latest 96 = .ok (.aload_n 0, 1) := by decide +kernel
theorem dX11_latest_97 : decode cX11_latest 97 = .ok (.getfield 22, 3) := by decide +kernel
theorem dX11_latest_100 : decode cX11_latest 100 = .ok (.getfield 273, 3) := by decide +kernel
theorem dX11_latest_103 : decode cX11_latest 103 = .ok (.if_icmp .ge 8, 3) := by decide +kernel
theorem dX11_latest_106 : decode cX11_latest 106 = .ok (.bipush (-2), 2) := by decide +kernel
theorem dX11_latest_108 : decode cX11_latest 108 = .ok (.goto 5, 3) := by decide +kernel
theorem dX11_latest_111 : decode cX11_latest 111 = .ok (.iload 4, 2) := by decide +kernel
theorem dX11_latest_113 : decode cX11_latest 113 = .ok (.ireturn, 1) := by decide +kernel
set_option maxRecDepth 20000 in
set_option maxHeartbeats 4000000 in
theorem c_latest (E : xE) (l : Launch) (a : Nat → Nat) (ws : va_W) (hW : WX (okX E a) ws) (p0 : Int32) (p1 : Int32) : xI E l yX11_latest cX11_latest 5 (some .int) 8 [.ref (a 0), .int p0, .int p1] ws (fun r w => WX (okX E a) w ∧ keeps ws w (fun q => ¬ (q = 0 ∨ q = 6 ∨ q = 9 ∨ q = 28 ∨ q = 31))) := by
  refine xI_start (lv := [(0, .ref (a 0)), (1, .int p0), (2, .int p1)]) RX11 (by decide) rfl (Nat.le_of_ble_eq_true rfl) rfl (fun p e s m below meth c A C hr hlk => ?_)
  have kp0 : keeps ws ws (fun q => ¬ (q = 0 ∨ q = 6 ∨ q = 9 ∨ q = 28 ∨ q = 31)) := keeps_rf
  refine x_aload_n C dX11_latest_0 rfl 0 rfl rfl ?_
  obtain ⟨_, k1, v2, rfl⟩ := hW 0 _ rfl
  refine x_get C (ci := 10) (k := 2) 0 k1 rfl in_X11 (by decide) w_387 rfl dX11_latest_1 rfl ?_
  obtain ⟨_, k3, n4, v6, v7, v8, v9, v10, bn5, rfl⟩ := hW 5 _ rfl
  refine x_get C (ci := 8) (k := 5) 5 k3 rfl in_X9 (by decide) w_213 rfl dX11_latest_4 rfl ?_
  refine x_iload_n C dX11_latest_7 rfl 1 rfl rfl ?_
  obtain ⟨_, k11, v12, rfl⟩ := hW 21 _ rfl
  refine x_vi C (As := [.int p0]) (rest := []) (c_Works_isTold E l a ws hW 5 (Or.inl rfl) p0) mf_X10_isTold w_893 21 k11 rfl rfl rfl (Nat.le_of_ble_eq_true rfl) ⟨(Nat.le_of_ble_eq_true rfl), (Nat.le_of_ble_eq_true rfl)⟩ ⟨(Nat.le_of_ble_eq_true rfl), (Nat.le_of_ble_eq_true rfl)⟩ dX11_latest_8 rfl (fun r14 w15 h13 => ?_)
  obtain ⟨hW16, zb17, x18⟩ := h13
  refine x_ws hW16 ?_
  refine x_if_eq C (tgt := 25) dX11_latest_11 (by decide) rfl (fun c19 => ?_) (fun c19 => ?_)
  · skip
    refine x_iconst C (v := (-1)) dX11_latest_25 (by decide) rfl ?_
    exact x_zret C hr hlk rfl dX11_latest_26 ⟨hW, kp0⟩
  · skip
    obtain ⟨j20, hl21, hh22, ej23⟩ := w_nat (a := 0) (b := 7) (by decide) (by decide) (x18 c19)
    subst ej23
    refine x_iload_n C dX11_latest_14 rfl 2 rfl rfl ?_
    refine x_iconst C (v := 1) dX11_latest_15 (by decide) rfl ?_
    refine x_sipush C (v := 999) dX11_latest_16 (by decide) rfl ?_
    refine x_si C (As := [.int p1, .int 1, .int 999]) (rest := []) (c_isWithin E l a ws hW p1 (1 : Int32) (999 : Int32)) mf_X11_isWithin w_462 rfl rfl (Nat.le_of_ble_eq_true rfl) ⟨(Nat.le_of_ble_eq_true rfl), (Nat.le_of_ble_eq_true rfl)⟩ ⟨(Nat.le_of_ble_eq_true rfl), (Nat.le_of_ble_eq_true rfl)⟩ dX11_latest_19 rfl (fun r25 w26 h24 => ?_)
    obtain ⟨hW27, zb28, x29⟩ := h24
    refine x_ws hW27 ?_
    refine x_if_ne C (tgt := 27) dX11_latest_22 (by decide) rfl (fun c30 => ?_) (fun c30 => ?_)
    · skip
      obtain ⟨j31, hl32, hh33, ej34⟩ := w_nat (a := 1) (b := 999) (by decide) (by decide) (x29 c30)
      subst ej34
      refine x_aload_n C dX11_latest_27 rfl 0 rfl rfl ?_
      refine x_get C (ci := 10) (k := 2) 0 k1 rfl in_X11 (by decide) w_387 rfl dX11_latest_28 rfl ?_
      refine x_get C (ci := 8) (k := 5) 5 k3 rfl in_X9 (by decide) w_213 rfl dX11_latest_31 rfl ?_
      refine x_iload_n C dX11_latest_34 rfl 1 rfl rfl ?_
      refine x_vi C (As := [.int (nI j20)]) (rest := []) (c_Works_isDone E l a ws hW 5 (Or.inl rfl) ((nI j20))) mf_X10_isDone w_894 21 k11 rfl rfl rfl (Nat.le_of_ble_eq_true rfl) ⟨(Nat.le_of_ble_eq_true rfl), (Nat.le_of_ble_eq_true rfl)⟩ ⟨(Nat.le_of_ble_eq_true rfl), (Nat.le_of_ble_eq_true rfl)⟩ dX11_latest_35 rfl (fun r36 w37 h35 => ?_)
      obtain ⟨hW38, zb39, x40⟩ := h35
      refine x_ws hW38 ?_
      refine x_if_eq C (tgt := 44) dX11_latest_38 (by decide) rfl (fun c41 => ?_) (fun c41 => ?_)
      · skip
        refine x_aload_n C dX11_latest_44 rfl 0 rfl rfl ?_
        refine x_get C (ci := 10) (k := 2) 0 k1 rfl in_X11 (by decide) w_387 rfl dX11_latest_45 rfl ?_
        refine x_get C (ci := 8) (k := 5) 5 k3 rfl in_X9 (by decide) w_213 rfl dX11_latest_48 rfl ?_
        refine x_get C (ci := 9) (k := 1) 21 k11 rfl in_X10 (by decide) w_172 rfl dX11_latest_51 rfl ?_
        refine x_iload_n C dX11_latest_54 rfl 1 rfl rfl ?_
        obtain ⟨_, k42, f43, rfl⟩ := hW 22 _ rfl
        refine x_iald C (v := (f43 (nI j20).toNatClampNeg)) 22 k42 (vp_in_nI (by omega) (by decide)) rfl dX11_latest_55 rfl ?_
        refine x_any (fun v44 => ?_)
        refine x_aload_n C dX11_latest_56 rfl 0 rfl rfl ?_
        refine x_get C (ci := 10) (k := 2) 0 k1 rfl in_X11 (by decide) w_387 rfl dX11_latest_57 rfl ?_
        refine x_get C (ci := 8) (k := 5) 5 k3 rfl in_X9 (by decide) w_213 rfl dX11_latest_60 rfl ?_
        refine x_get C (ci := 9) (k := 2) 21 k11 rfl in_X10 (by decide) w_175 rfl dX11_latest_63 rfl ?_
        refine x_iload_n C dX11_latest_66 rfl 1 rfl rfl ?_
        obtain ⟨_, k45, f46, rfl⟩ := hW 23 _ rfl
        refine x_iald C (v := (f46 (nI j20).toNatClampNeg)) 23 k45 (vp_in_nI (by omega) (by decide)) rfl dX11_latest_67 rfl ?_
        refine x_any (fun v47 => ?_)
        refine x_isub C (v := (v44 - v47)) dX11_latest_68 rfl rfl ?_
        refine x_any (fun v48 => ?_)
        refine x_istore_n C (lv' := [(3, .int v48), (0, .ref (a 0)), (1, .int (nI j20)), (2, .int (nI j31))]) dX11_latest_69 rfl (by decide) rfl rfl ?_
        refine x_aload_n C dX11_latest_70 rfl 1 rfl rfl ?_
        refine x_get C (ci := 10) (k := 2) 0 k1 rfl in_X11 (by decide) w_387 rfl dX11_latest_71 rfl ?_
        refine x_get C (ci := 8) (k := 5) 5 k3 rfl in_X9 (by decide) w_213 rfl dX11_latest_74 rfl ?_
        refine x_get C (ci := 9) (k := 4) 21 k11 rfl in_X10 (by decide) w_180 rfl dX11_latest_77 rfl ?_
        refine x_iload_n C dX11_latest_80 rfl 2 rfl rfl ?_
        obtain ⟨_, k49, f50, rfl⟩ := hW 25 _ rfl
        refine x_iald C (v := (f50 (nI j20).toNatClampNeg)) 25 k49 (vp_in_nI (by omega) (by decide)) rfl dX11_latest_81 rfl ?_
        refine x_any (fun v51 => ?_)
        refine x_iconst C (v := 1) dX11_latest_82 (by decide) rfl ?_
        refine x_iadd C (v := (v51 + (1 : Int32))) dX11_latest_83 rfl rfl ?_
        refine x_any (fun v52 => ?_)
        refine x_iload_n C dX11_latest_84 rfl 0 rfl rfl ?_
        refine x_iload_n C dX11_latest_85 rfl 3 rfl rfl ?_
        refine x_iadd C (v := (v48 + (nI j31))) dX11_latest_86 rfl rfl ?_
        refine x_any (fun v53 => ?_)
        refine x_iconst C (v := 1) dX11_latest_87 (by decide) rfl ?_
        refine x_isub C (v := (v53 - (1 : Int32))) dX11_latest_88 rfl rfl ?_
        refine x_any (fun v54 => ?_)
        refine x_iload_n C dX11_latest_89 rfl 3 rfl rfl ?_
        refine x_idiv C (v := (v54 / (nI j31))) dX11_latest_90 (nz (by omega) (by omega)) rfl rfl ?_
        refine x_any (fun v55 => ?_)
        refine x_isub C (v := (v52 - v55)) dX11_latest_91 rfl rfl ?_
        refine x_any (fun v56 => ?_)
        refine x_istore C (lv' := [(4, .int v56), (3, .int v48), (0, .ref (a 0)), (1, .int (nI j20)), (2, .int (nI j31))]) dX11_latest_92 (by decide) rfl rfl ?_
        refine x_iload C dX11_latest_94 0 rfl rfl ?_
        refine x_aload_n C dX11_latest_96 rfl 2 rfl rfl ?_
        refine x_get C (ci := 10) (k := 2) 0 k1 rfl in_X11 (by decide) w_387 rfl dX11_latest_97 rfl ?_
        refine x_get C (ci := 8) (k := 0) 5 k3 rfl in_X9 (by decide) w_197 rfl dX11_latest_100 rfl ?_
        refine x_icmp_ge C (tgt := 111) dX11_latest_103 (by decide) rfl (fun c57 => ?_) (fun c57 => ?_)
        · skip
          refine x_iload C dX11_latest_111 0 rfl rfl ?_
          exact x_zret C hr hlk rfl dX11_latest_113 ⟨hW, kp0⟩
        · skip
          refine x_bipush C (v := (-2)) dX11_latest_106 (by decide) rfl ?_
          refine x_goto C (tgt := 113) dX11_latest_108 (by decide) ?_
          exact x_zret C hr hlk rfl dX11_latest_113 ⟨hW, kp0⟩
      · skip
        have wi58 := wth_le (a := 0) (b := 7) (j := j20) (x40 c41) (by omega) (by decide) (by decide)
        refine x_bipush C (v := (-3)) dX11_latest_41 (by decide) rfl ?_
        exact x_zret C hr hlk rfl dX11_latest_43 ⟨hW, kp0⟩
    · skip
      refine x_iconst C (v := (-1)) dX11_latest_25 (by decide) rfl ?_
      exact x_zret C hr hlk rfl dX11_latest_26 ⟨hW, kp0⟩
