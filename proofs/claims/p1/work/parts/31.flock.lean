theorem fl_step {f : Nat → Int32} {d h : Nat} (hf : ∀ j, 1 ≤ j → j ≤ 20 → f j = nI (if j < h then fh (d + 1) j else fh d j)) (_ : h ≤ 20) (_ : 1 ≤ h) (_ : h < 2 ^ 31) : ∀ j, 1 ≤ j → j ≤ 20 → upd f h (nI (fh (d + 1) h)) j = nI (if j < h + 1 then fh (d + 1) j else fh d j) := by
  intro j h1 h2
  by_cases e : j = h
  · subst e; rw [pk_us, if_pos (by omega)]
  · rw [pk_un e, hf j h1 h2]
    by_cases q : j < h
    · rw [if_pos q, if_pos (by omega)]
    · rw [if_neg q, if_neg (by omega)]
theorem dX11_bestHatch_0 : decode cX11_bestHatch 0 = .ok (.iconst 0, 1) := by decide +kernel
theorem dX11_bestHatch_1 : decode cX11_bestHatch 1 = .ok (.istore_n 2, 1) := by decide +kernel
theorem dX11_bestHatch_2 : decode cX11_bestHatch 2 = .ok (.iconst (-1), 1) := by decide +kernel
theorem dX11_bestHatch_3 : decode cX11_bestHatch 3 = .ok (.istore_n 3, 1) := by decide +kernel
theorem dX11_bestHatch_4 : decode cX11_bestHatch 4 = .ok (.iconst 0, 1) := by decide +kernel
theorem dX11_bestHatch_5 : decode cX11_bestHatch 5 = .ok (.istore 4, 2) := by decide +kernel
theorem dX11_bestHatch_7 : decode cX11_bestHatch 7 = .ok (.iload 4, 2) := by decide +kernel
theorem dX11_bestHatch_9 : decode cX11_bestHatch 9 = .ok (.iload_n 1, 1) := by decide +kernel
theorem dX11_bestHatch_10 : decode cX11_bestHatch 10 = .ok (.if_icmp .gt 46, 3) := by decide +kernel
theorem dX11_bestHatch_13 : decode cX11_bestHatch 13 = .ok (.iload_n 1, 1) := by decide +kernel
theorem dX11_bestHatch_14 : decode cX11_bestHatch 14 = .ok (.iload 4, 2) := by decide +kernel
theorem dX11_bestHatch_16 : decode cX11_bestHatch 16 = .ok (.iadd, 1) := by decide +kernel
theorem dX11_bestHatch_17 : decode cX11_bestHatch 17 = .ok (.bipush 20, 2) := by decide +kernel
theorem dX11_bestHatch_19 : decode cX11_bestHatch 19 = .ok (.if_icmp .gt 37, 3) := by decide +kernel
theorem dX11_bestHatch_22 : decode cX11_bestHatch 22 = .ok (.iload_n 1, 1) := by decide +kernel
theorem dX11_bestHatch_23 : decode cX11_bestHatch 23 = .ok (.iload 4, 2) := by decide +kernel
theorem dX11_bestHatch_25 : decode cX11_bestHatch 25 = .ok (.isub, 1) := by decide +kernel
theorem dX11_bestHatch_26 : decode cX11_bestHatch 26 = .ok (.aload_n 0, 1) := by decide +kernel
theorem dX11_bestHatch_27 : decode cX11_bestHatch 27 = .ok (.getfield 77, 3) := by decide +kernel
theorem dX11_bestHatch_30 : decode cX11_bestHatch 30 = .ok (.iload_n 1, 1) := by decide +kernel
theorem dX11_bestHatch_31 : decode cX11_bestHatch 31 = .ok (.iload 4, 2) := by decide +kernel
theorem dX11_bestHatch_33 : decode cX11_bestHatch 33 = .ok (.iadd, 1) := by decide +kernel
theorem dX11_bestHatch_34 : decode cX11_bestHatch 34 = .ok (.iaload, 1) := by decide +kernel
theorem dX11_bestHatch_35 : decode cX11_bestHatch 35 = .ok (.iadd, 1) := by decide +kernel
theorem dX11_bestHatch_36 : decode cX11_bestHatch 36 = .ok (.istore 5, 2) := by decide +kernel
theorem dX11_bestHatch_38 : decode cX11_bestHatch 38 = .ok (.iload 5, 2) := by decide +kernel
theorem dX11_bestHatch_40 : decode cX11_bestHatch 40 = .ok (.iload_n 3, 1) := by decide +kernel
theorem dX11_bestHatch_41 : decode cX11_bestHatch 41 = .ok (.if_icmp .le 9, 3) := by decide +kernel
theorem dX11_bestHatch_44 : decode cX11_bestHatch 44 = .ok (.iload 5, 2) := by decide +kernel
theorem dX11_bestHatch_46 : decode cX11_bestHatch 46 = .ok (.istore_n 3, 1) := by decide +kernel
theorem dX11_bestHatch_47 : decode cX11_bestHatch 47 = .ok (.iload 4, 2) := by decide +kernel
theorem dX11_bestHatch_49 : decode cX11_bestHatch 49 = .ok (.istore_n 2, 1) := by decide +kernel
theorem dX11_bestHatch_50 : decode cX11_bestHatch 50 = .ok (.iinc 4 1, 3) := by decide +kernel
theorem dX11_bestHatch_53 : decode cX11_bestHatch 53 = .ok (.goto (-46), 3) := by decide +kernel
theorem dX11_bestHatch_56 : decode cX11_bestHatch 56 = .ok (.iload_n 2, 1) := by decide +kernel
theorem dX11_bestHatch_57 : decode cX11_bestHatch 57 = .ok (.ireturn, 1) := by decide +kernel
set_option maxRecDepth 20000 in
set_option maxHeartbeats 4000000 in
theorem t_bestHatch (E : xE) (l : Launch) (ws : va_W) {x xt xk xn xp xtr xr xs xl xpl xse ah ald arm ahr ash arw abr aw : Nat} {f : Nat → Int32} (p_0 : Nat) (k_0 : ws[0]? = some (ob x 10 [.ref xt, .ref xk, .ref xn, .ref xp, .ref xtr, .int 0, .ref xr, .ref xs, .ref xl, .ref xpl, .ref xse, .ref ah, .ref ald, .ref arm, .ref ahr, .ref ash, .ref arw, .ref abr, .ref aw])) (p_1 : Nat) (k_1 : ws[76]? = some (iA E ahr 21 f)) (g : Nat → Nat) (hh : Nat) (h20 : hh ≤ 20) (hb : ∀ j, j ≤ 20 → g j ≤ 1000) (hf : ∀ j, hh ≤ j → j ≤ 20 → f j = nI (g j)) : xI E l yX11_bestHatch cX11_bestHatch 6 (some .int) 0 [.ref x, .int (nI hh)] ws (fun r w => r = nI (sc g hh (mn hh)) ∧ w = ws) := by
  refine xI_start (lv := [(0, .ref x), (1, .int (nI hh))]) RX11 (by decide) rfl (Nat.le_of_ble_eq_true rfl) rfl (fun p e s m below meth c A C hr hlk => ?_)
  refine x_iconst C (v := 0) dX11_bestHatch_0 (by decide) rfl ?_
  refine x_istore_n C (lv' := [(2, .int 0), (0, .ref x), (1, .int (nI hh))]) dX11_bestHatch_1 rfl (by decide) rfl rfl ?_
  refine x_iconst C (v := (-1)) dX11_bestHatch_2 (by decide) rfl ?_
  refine x_istore_n C (lv' := [(3, .int (-1)), (2, .int 0), (0, .ref x), (1, .int (nI hh))]) dX11_bestHatch_3 rfl (by decide) rfl rfl ?_
  refine x_iconst C (v := 0) dX11_bestHatch_4 (by decide) rfl ?_
  refine x_istore C (lv' := [(4, .int 0), (3, .int (-1)), (2, .int 0), (0, .ref x), (1, .int (nI hh))]) dX11_bestHatch_5 (by decide) rfl rfl ?_
  have loop : ∀ (n k : Nat) (best most : Int32), k ≤ mn hh + 1 → mn hh + 1 - k < n → bhI g hh k best most → X E p l e (xRm 0 0 0) s m ([.ref x, .int (nI hh)] : List Value).toArray below meth c A 6 0 0 (MQ below (va_Qi (fun r w => r = nI (sc g hh (mn hh)) ∧ w = ws) (xB E A) A) ([.ref x, .int (nI hh)] : List Value).toArray s 0 0 A) ws 7 [(4, .int (nI k)), (3, .int most), (2, .int best), (0, .ref x), (1, .int (nI hh))] [] := by
    intro n
    induction n with
    | zero => intro k _ _ _ h; omega
    | succ n ih =>
      intro k best most h1 h2 I
      have hm := mn_le hh
      refine x_iload C dX11_bestHatch_7 0 rfl rfl ?_
      refine x_iload_n C dX11_bestHatch_9 rfl 4 rfl rfl ?_
      refine x_icmp_gt C (tgt := 56) dX11_bestHatch_10 (by decide) rfl (fun c1 => ?_) (fun c1 => ?_)
      · skip
        refine x_iload_n C dX11_bestHatch_56 rfl 2 rfl rfl ?_
        exact x_zret C hr hlk rfl dX11_bestHatch_57 ⟨bhI_end I (mn_eq h20 h1 (Or.inl (nI_lt' c1 (by omega) (by omega)))), rfl⟩
      · skip
        have hk1 : k ≤ hh := nI_nlt' c1 (by omega) (by omega)
        refine x_iload_n C dX11_bestHatch_13 rfl 4 rfl rfl ?_
        refine x_iload C dX11_bestHatch_14 0 rfl rfl ?_
        refine x_iadd C (v := ((nI hh) + (nI k))) dX11_bestHatch_16 rfl rfl ?_
        refine x_top (v := (nI (hh + k))) (nI_add hh k) ?_
        refine x_bipush C (v := 20) dX11_bestHatch_17 (by decide) rfl ?_
        refine x_icmp_gt C (tgt := 56) dX11_bestHatch_19 (by decide) rfl (fun c2 => ?_) (fun c2 => ?_)
        · skip
          refine x_iload_n C dX11_bestHatch_56 rfl 2 rfl rfl ?_
          exact x_zret C hr hlk rfl dX11_bestHatch_57 ⟨bhI_end I (mn_eq h20 h1 (Or.inr (nI_lt' (a := 20) c2 (by decide) (by omega)))), rfl⟩
        · skip
          have hk2 : hh + k ≤ 20 := nI_nlt' (a := 20) c2 (by decide) (by omega)
          have hmk := mn_in hk1 hk2
          refine x_iload_n C dX11_bestHatch_22 rfl 4 rfl rfl ?_
          refine x_iload C dX11_bestHatch_23 0 rfl rfl ?_
          refine x_isub C (v := ((nI hh) - (nI k))) dX11_bestHatch_25 rfl rfl ?_
          refine x_top (v := (nI (hh - k))) (pk_sub hk1) ?_
          refine x_aload_n C dX11_bestHatch_26 rfl 3 rfl rfl ?_
          refine x_get C (ci := 10) (k := 14) 0 k_0 rfl in_X11 (by decide) w_399 rfl dX11_bestHatch_27 rfl ?_
          refine x_iload_n C dX11_bestHatch_30 rfl 4 rfl rfl ?_
          refine x_iload C dX11_bestHatch_31 0 rfl rfl ?_
          refine x_iadd C (v := ((nI hh) + (nI k))) dX11_bestHatch_33 rfl rfl ?_
          refine x_top (v := (nI (hh + k))) (nI_add hh k) ?_
          refine x_iald C (v := nI (g (hh + k))) 76 k_1 (vp_in_nI (by omega) (by decide)) (by rw [nI_clamp (by omega)]; exact hf _ (by omega) hk2) dX11_bestHatch_34 rfl ?_
          refine x_iadd C (v := ((nI (hh - k)) + (nI (g (hh + k))))) dX11_bestHatch_35 rfl rfl ?_
          refine x_top (v := (nI (fv g hh k))) (nI_add _ _) ?_
          refine x_istore C (lv' := [(5, .int (nI (fv g hh k))), (4, .int (nI k)), (3, .int most), (2, .int best), (0, .ref x), (1, .int (nI hh))]) dX11_bestHatch_36 (by decide) rfl rfl ?_
          refine x_iload C dX11_bestHatch_38 0 rfl rfl ?_
          refine x_iload_n C dX11_bestHatch_40 rfl 2 rfl rfl ?_
          refine x_icmp_le C (tgt := 50) dX11_bestHatch_41 (by decide) rfl (fun c3 => ?_) (fun c3 => ?_)
          · skip
            refine x_iinc C (v := ((nI k) + 1)) (lv' := [(4, .int ((nI k) + 1)), (5, .int (nI (fv g hh k))), (3, .int most), (2, .int best), (0, .ref x), (1, .int (nI hh))]) dX11_bestHatch_50 1 rfl rfl (by decide) rfl rfl ?_
            refine x_goto C (tgt := 7) dX11_bestHatch_53 (by decide) ?_
            refine x_lv (lv1 := [(4, .int (nI k + 1)), (3, .int most), (2, .int best), (0, .ref x), (1, .int (nI hh))]) [0, 2, 3, 4, 5] rfl ?_
            rw [nI_1]
            exact ih (k + 1) best most (by omega) (by omega) (bhI_no hb hk1 hk2 I c3)
          · skip
            refine x_iload C dX11_bestHatch_44 0 rfl rfl ?_
            refine x_istore_n C (lv' := [(3, .int (nI (fv g hh k))), (5, .int (nI (fv g hh k))), (4, .int (nI k)), (2, .int best), (0, .ref x), (1, .int (nI hh))]) dX11_bestHatch_46 rfl (by decide) rfl rfl ?_
            refine x_iload C dX11_bestHatch_47 2 rfl rfl ?_
            refine x_istore_n C (lv' := [(2, .int (nI k)), (3, .int (nI (fv g hh k))), (5, .int (nI (fv g hh k))), (4, .int (nI k)), (0, .ref x), (1, .int (nI hh))]) dX11_bestHatch_49 rfl (by decide) rfl rfl ?_
            refine x_iinc C (v := ((nI k) + 1)) (lv' := [(4, .int ((nI k) + 1)), (2, .int (nI k)), (3, .int (nI (fv g hh k))), (5, .int (nI (fv g hh k))), (0, .ref x), (1, .int (nI hh))]) dX11_bestHatch_50 3 rfl rfl (by decide) rfl rfl ?_
            refine x_goto C (tgt := 7) dX11_bestHatch_53 (by decide) ?_
            refine x_lv (lv1 := [(4, .int (nI k + 1)), (3, .int (nI (fv g hh k))), (2, .int (nI k)), (0, .ref x), (1, .int (nI hh))]) [0, 2, 1, 4, 5] rfl ?_
            rw [nI_1]
            exact ih (k + 1) (nI k) (nI (fv g hh k)) (by omega) (by omega) (bhI_up hb hk1 hk2 I c3)
  have e0 : (0 : Int32) = nI 0 := nI_0.symm
  exact loop (mn hh + 2) 0 0 (-1) (by omega) (by omega) (Or.inl ⟨rfl, rfl, rfl⟩)
theorem dX11_flock_0 : decode cX11_flock 0 = .ok (.iload_n 1, 1) := by decide +kernel
theorem dX11_flock_1 : decode cX11_flock 1 = .ok (.iconst 1, 1) := by decide +kernel
theorem dX11_flock_2 : decode cX11_flock 2 = .ok (.bipush 20, 2) := by decide +kernel
theorem dX11_flock_4 : decode cX11_flock 4 = .ok (.invokestatic 102, 3) := by decide +kernel
theorem dX11_flock_7 : decode cX11_flock 7 = .ok (.ifCond .eq 22, 3) := by decide +kernel
theorem dX11_flock_10 : decode cX11_flock 10 = .ok (.iload_n 2, 1) := by decide +kernel
theorem dX11_flock_11 : decode cX11_flock 11 = .ok (.iconst 1, 1) := by decide +kernel
theorem dX11_flock_12 : decode cX11_flock 12 = .ok (.bipush 12, 2) := by decide +kernel
theorem dX11_flock_14 : decode cX11_flock 14 = .ok (.invokestatic 102, 3) := by decide +kernel
theorem dX11_flock_17 : decode cX11_flock 17 = .ok (.ifCond .eq 12, 3) := by decide +kernel
theorem dX11_flock_20 : decode cX11_flock 20 = .ok (.iload_n 3, 1) := by decide +kernel
theorem dX11_flock_21 : decode cX11_flock 21 = .ok (.iconst 0, 1) := by decide +kernel
theorem dX11_flock_22 : decode cX11_flock 22 = .ok (.iconst 1, 1) := by decide +kernel
theorem dX11_flock_23 : decode cX11_flock 23 = .ok (.invokestatic 102, 3) := by decide +kernel
theorem dX11_flock_26 : decode cX11_flock 26 = .ok (.ifCond .ne 5, 3) := by decide +kernel
theorem dX11_flock_29 : decode cX11_flock 29 = .ok (.iconst (-1), 1) := by decide +kernel
theorem dX11_flock_30 : decode cX11_flock 30 = .ok (.ireturn, 1) := by decide +kernel
theorem dX11_flock_31 : decode cX11_flock 31 = .ok (.iconst 0, 1) := by decide +kernel
theorem dX11_flock_32 : decode cX11_flock 32 = .ok (.istore 4, 2) := by decide +kernel
theorem dX11_flock_34 : decode cX11_flock 34 = .ok (.iload 4, 2) := by decide +kernel
theorem dX11_flock_36 : decode cX11_flock 36 = .ok (.bipush 20, 2) := by decide +kernel
theorem dX11_flock_38 : decode cX11_flock 38 = .ok (.if_icmp .gt 17, 3) := by decide +kernel
theorem dX11_flock_41 : decode cX11_flock 41 = .ok (.aload_n 0, 1) := by decide +kernel
theorem dX11_flock_42 : decode cX11_flock 42 = .ok (.getfield 77, 3) := by decide +kernel
theorem dX11_flock_45 : decode cX11_flock 45 = .ok (.iload 4, 2) := by decide +kernel
theorem dX11_flock_47 : decode cX11_flock 47 = .ok (.iconst 0, 1) := by decide +kernel
theorem dX11_flock_48 : decode cX11_flock 48 = .ok (.iastore, 1) := by decide +kernel
theorem dX11_flock_49 : decode cX11_flock 49 = .ok (.iinc 4 1, 3) := by decide +kernel
theorem dX11_flock_52 : decode cX11_flock 52 = .ok (.goto (-18), 3) := by decide +kernel
theorem dX11_flock_55 : decode cX11_flock 55 = .ok (.iconst 0, 1) := by decide +kernel
theorem dX11_flock_56 : decode cX11_flock 56 = .ok (.istore 4, 2) := by decide +kernel
theorem dX11_flock_58 : decode cX11_flock 58 = .ok (.iconst 0, 1) := by decide +kernel
theorem dX11_flock_59 : decode cX11_flock 59 = .ok (.istore 5, 2) := by decide +kernel
theorem dX11_flock_61 : decode cX11_flock 61 = .ok (.iload 5, 2) := by decide +kernel
theorem dX11_flock_63 : decode cX11_flock 63 = .ok (.iload_n 2, 1) := by decide +kernel
theorem dX11_flock_64 : decode cX11_flock 64 = .ok (.if_icmp .ge 71, 3) := by decide +kernel
theorem dX11_flock_67 : decode cX11_flock 67 = .ok (.iconst 1, 1) := by decide +kernel
theorem dX11_flock_68 : decode cX11_flock 68 = .ok (.istore 6, 2) := by decide +kernel
theorem dX11_flock_70 : decode cX11_flock 70 = .ok (.iload 6, 2) := by decide +kernel
theorem dX11_flock_72 : decode cX11_flock 72 = .ok (.bipush 20, 2) := by decide +kernel
theorem dX11_flock_74 : decode cX11_flock 74 = .ok (.if_icmp .gt 55, 3) := by decide +kernel
theorem dX11_flock_77 : decode cX11_flock 77 = .ok (.aload_n 0, 1) := by decide +kernel
theorem dX11_flock_78 : decode cX11_flock 78 = .ok (.iload 6, 2) := by decide +kernel
theorem dX11_flock_80 : decode cX11_flock 80 = .ok (.invokevirtual 314, 3) := by decide +kernel
theorem dX11_flock_83 : decode cX11_flock 83 = .ok (.istore 7, 2) := by decide +kernel
theorem dX11_flock_85 : decode cX11_flock 85 = .ok (.iload 6, 2) := by decide +kernel
theorem dX11_flock_87 : decode cX11_flock 87 = .ok (.iload_n 1, 1) := by decide +kernel
theorem dX11_flock_88 : decode cX11_flock 88 = .ok (.if_icmp .ne 8, 3) := by decide +kernel
theorem dX11_flock_91 : decode cX11_flock 91 = .ok (.iload 7, 2) := by decide +kernel
theorem dX11_flock_93 : decode cX11_flock 93 = .ok (.goto 5, 3) := by decide +kernel
theorem dX11_flock_96 : decode cX11_flock 96 = .ok (.iload 4, 2) := by decide +kernel
theorem dX11_flock_98 : decode cX11_flock 98 = .ok (.istore 4, 2) := by decide +kernel
theorem dX11_flock_100 : decode cX11_flock 100 = .ok (.aload_n 0, 1) := by decide +kernel
theorem dX11_flock_101 : decode cX11_flock 101 = .ok (.getfield 77, 3) := by decide +kernel
theorem dX11_flock_104 : decode cX11_flock 104 = .ok (.iload 6, 2) := by decide +kernel
theorem dX11_flock_106 : decode cX11_flock 106 = .ok (.iload 6, 2) := by decide +kernel
theorem dX11_flock_108 : decode cX11_flock 108 = .ok (.iload 7, 2) := by decide +kernel
theorem dX11_flock_110 : decode cX11_flock 110 = .ok (.isub, 1) := by decide +kernel
theorem dX11_flock_111 : decode cX11_flock 111 = .ok (.aload_n 0, 1) := by decide +kernel
theorem dX11_flock_112 : decode cX11_flock 112 = .ok (.getfield 77, 3) := by decide +kernel
theorem dX11_flock_115 : decode cX11_flock 115 = .ok (.iload 6, 2) := by decide +kernel
theorem dX11_flock_117 : decode cX11_flock 117 = .ok (.iload 7, 2) := by decide +kernel
theorem dX11_flock_119 : decode cX11_flock 119 = .ok (.iadd, 1) := by decide +kernel
theorem dX11_flock_120 : decode cX11_flock 120 = .ok (.iaload, 1) := by decide +kernel
theorem dX11_flock_121 : decode cX11_flock 121 = .ok (.iadd, 1) := by decide +kernel
theorem dX11_flock_122 : decode cX11_flock 122 = .ok (.iastore, 1) := by decide +kernel
theorem dX11_flock_123 : decode cX11_flock 123 = .ok (.iinc 6 1, 3) := by decide +kernel
theorem dX11_flock_126 : decode cX11_flock 126 = .ok (.goto (-56), 3) := by decide +kernel
theorem dX11_flock_129 : decode cX11_flock 129 = .ok (.iinc 5 1, 3) := by decide +kernel
theorem dX11_flock_132 : decode cX11_flock 132 = .ok (.goto (-71), 3) := by decide +kernel
theorem dX11_flock_135 : decode cX11_flock 135 = .ok (.iload_n 3, 1) := by decide +kernel
theorem dX11_flock_136 : decode cX11_flock 136 = .ok (.ifCond .ne 12, 3) := by decide +kernel
theorem dX11_flock_139 : decode cX11_flock 139 = .ok (.aload_n 0, 1) := by decide +kernel
theorem dX11_flock_140 : decode cX11_flock 140 = .ok (.getfield 77, 3) := by decide +kernel
theorem dX11_flock_143 : decode cX11_flock 143 = .ok (.iload_n 1, 1) := by decide +kernel
theorem dX11_flock_144 : decode cX11_flock 144 = .ok (.iaload, 1) := by decide +kernel
theorem dX11_flock_145 : decode cX11_flock 145 = .ok (.goto 5, 3) := by decide +kernel
theorem dX11_flock_148 : decode cX11_flock 148 = .ok (.iload 4, 2) := by decide +kernel
theorem dX11_flock_150 : decode cX11_flock 150 = .ok (.ireturn, 1) := by decide +kernel
set_option maxRecDepth 20000 in
set_option maxHeartbeats 4000000 in
theorem t_flock (E : xE) (l : Launch) (ws : va_W) {x xt xk xn xp xtr xr xs xl xpl xse ah ald arm ahr ash arw abr aw : Nat} (p_0 : Nat) (k_0 : ws[0]? = some (ob x 10 [.ref xt, .ref xk, .ref xn, .ref xp, .ref xtr, .int 0, .ref xr, .ref xs, .ref xl, .ref xpl, .ref xse, .ref ah, .ref ald, .ref arm, .ref ahr, .ref ash, .ref arw, .ref abr, .ref aw])) (p_1 : Nat) (k_1 : ws[76]? = some (iA E ahr 21 (fun _ => 0))) (hens n wh : Int32) : xI E l yX11_flock cX11_flock 8 (some .int) 2 [.ref x, .int hens, .int n, .int wh] ws (fun r w => r = flk hens n wh) := by
  refine xI_start (lv := [(0, .ref x), (1, .int hens), (2, .int n), (3, .int wh)]) RX11 (by decide) rfl (Nat.le_of_ble_eq_true rfl) rfl (fun p e s m below meth c A C hr hlk => ?_)
  refine x_iload_n C dX11_flock_0 rfl 1 rfl rfl ?_
  refine x_iconst C (v := 1) dX11_flock_1 (by decide) rfl ?_
  refine x_bipush C (v := 20) dX11_flock_2 (by decide) rfl ?_
  refine x_si C (As := [.int hens, .int 1, .int 20]) (rest := []) (t_isWithin E l ws hens 1 20) mf_X11_isWithin w_462 rfl rfl (Nat.le_of_ble_eq_true rfl) ⟨(Nat.le_of_ble_eq_true rfl), (Nat.le_of_ble_eq_true rfl)⟩ ⟨(Nat.le_of_ble_eq_true rfl), (Nat.le_of_ble_eq_true rfl)⟩ dX11_flock_4 rfl (fun r2 w3 h1 => ?_)
  obtain ⟨e4, g5⟩ := h1
  refine x_top e4 ?_
  refine x_ws g5 ?_
  refine x_if_eq C (tgt := 29) dX11_flock_7 (by decide) rfl (fun c6 => ?_) (fun c6 => ?_)
  · skip
    have b7 := bI_e0 c6
    refine x_iconst C (v := (-1)) dX11_flock_29 (by decide) rfl ?_
    exact x_zret C hr hlk rfl dX11_flock_30 (by rw [flk, if_neg (fun q => by simp [b7] at q)])
  · skip
    have b8 := bI_n0 c6
    refine x_iload_n C dX11_flock_10 rfl 2 rfl rfl ?_
    refine x_iconst C (v := 1) dX11_flock_11 (by decide) rfl ?_
    refine x_bipush C (v := 12) dX11_flock_12 (by decide) rfl ?_
    refine x_si C (As := [.int n, .int 1, .int 12]) (rest := []) (t_isWithin E l ws n 1 12) mf_X11_isWithin w_462 rfl rfl (Nat.le_of_ble_eq_true rfl) ⟨(Nat.le_of_ble_eq_true rfl), (Nat.le_of_ble_eq_true rfl)⟩ ⟨(Nat.le_of_ble_eq_true rfl), (Nat.le_of_ble_eq_true rfl)⟩ dX11_flock_14 rfl (fun r10 w11 h9 => ?_)
    obtain ⟨e12, g13⟩ := h9
    refine x_top e12 ?_
    refine x_ws g13 ?_
    refine x_if_eq C (tgt := 29) dX11_flock_17 (by decide) rfl (fun c14 => ?_) (fun c14 => ?_)
    · skip
      have b15 := bI_e0 c14
      refine x_iconst C (v := (-1)) dX11_flock_29 (by decide) rfl ?_
      exact x_zret C hr hlk rfl dX11_flock_30 (by rw [flk, if_neg (fun q => by simp [b8, b15] at q)])
    · skip
      have b16 := bI_n0 c14
      refine x_iload_n C dX11_flock_20 rfl 3 rfl rfl ?_
      refine x_iconst C (v := 0) dX11_flock_21 (by decide) rfl ?_
      refine x_iconst C (v := 1) dX11_flock_22 (by decide) rfl ?_
      refine x_si C (As := [.int wh, .int 0, .int 1]) (rest := []) (t_isWithin E l ws wh 0 1) mf_X11_isWithin w_462 rfl rfl (Nat.le_of_ble_eq_true rfl) ⟨(Nat.le_of_ble_eq_true rfl), (Nat.le_of_ble_eq_true rfl)⟩ ⟨(Nat.le_of_ble_eq_true rfl), (Nat.le_of_ble_eq_true rfl)⟩ dX11_flock_23 rfl (fun r18 w19 h17 => ?_)
      obtain ⟨e20, g21⟩ := h17
      refine x_top e20 ?_
      refine x_ws g21 ?_
      refine x_if_ne C (tgt := 31) dX11_flock_26 (by decide) rfl (fun c22 => ?_) (fun c22 => ?_)
      · skip
        have b23 := bI_n0 c22
        obtain ⟨a, ha1, ha2, han⟩ := w_nat (a := 1) (b := 20) (by decide) (by decide) b8
        obtain ⟨nn, hn1, hn2, hnn⟩ := w_nat (a := 1) (b := 12) (by decide) (by decide) b16
        have hin3 : wth hens 1 20 ∧ wth n 1 12 ∧ wth wh 0 1 := ⟨b8, b16, b23⟩
        subst han
        subst hnn
        refine x_iconst C (v := 0) dX11_flock_31 (by decide) rfl ?_
        refine x_istore C (lv' := [(4, .int 0), (0, .ref x), (1, .int (nI a)), (2, .int (nI nn)), (3, .int wh)]) dX11_flock_32 (by decide) rfl rfl ?_
        refine x_iload C dX11_flock_34 0 rfl rfl ?_
        refine x_bipush C (v := 20) dX11_flock_36 (by decide) rfl ?_
        refine x_icmp_gt C (tgt := 55) dX11_flock_38 (by decide) rfl (fun h => absurd h (by decide)) (fun _ => ?_)
        refine x_aload_n C dX11_flock_41 rfl 1 rfl rfl ?_
        refine x_get C (ci := 10) (k := 14) 0 k_0 rfl in_X11 (by decide) w_399 rfl dX11_flock_42 rfl ?_
        refine x_iload C dX11_flock_45 0 rfl rfl ?_
        refine x_iconst C (v := 0) dX11_flock_47 (by decide) rfl ?_
        refine x_iask C (ws1 := ws) 0 (by decide) (by decide) (by decide) 76 k_1 (by rw [upd_z]; exact set_same k_1) dX11_flock_48 rfl ?_
        refine x_iinc C (v := 1) (lv' := [(4, .int 1), (0, .ref x), (1, .int (nI a)), (2, .int (nI nn)), (3, .int wh)]) dX11_flock_49 0 rfl (by decide) (by decide) rfl rfl ?_
        refine x_goto C (tgt := 34) dX11_flock_52 (by decide) ?_
        refine x_iload C dX11_flock_34 0 rfl rfl ?_
        refine x_bipush C (v := 20) dX11_flock_36 (by decide) rfl ?_
        refine x_icmp_gt C (tgt := 55) dX11_flock_38 (by decide) rfl (fun h => absurd h (by decide)) (fun _ => ?_)
        refine x_aload_n C dX11_flock_41 rfl 1 rfl rfl ?_
        refine x_get C (ci := 10) (k := 14) 0 k_0 rfl in_X11 (by decide) w_399 rfl dX11_flock_42 rfl ?_
        refine x_iload C dX11_flock_45 0 rfl rfl ?_
        refine x_iconst C (v := 0) dX11_flock_47 (by decide) rfl ?_
        refine x_iask C (ws1 := ws) 1 (by decide) (by decide) (by decide) 76 k_1 (by rw [upd_z]; exact set_same k_1) dX11_flock_48 rfl ?_
        refine x_iinc C (v := 2) (lv' := [(4, .int 2), (0, .ref x), (1, .int (nI a)), (2, .int (nI nn)), (3, .int wh)]) dX11_flock_49 0 rfl (by decide) (by decide) rfl rfl ?_
        refine x_goto C (tgt := 34) dX11_flock_52 (by decide) ?_
        refine x_iload C dX11_flock_34 0 rfl rfl ?_
        refine x_bipush C (v := 20) dX11_flock_36 (by decide) rfl ?_
        refine x_icmp_gt C (tgt := 55) dX11_flock_38 (by decide) rfl (fun h => absurd h (by decide)) (fun _ => ?_)
        refine x_aload_n C dX11_flock_41 rfl 1 rfl rfl ?_
        refine x_get C (ci := 10) (k := 14) 0 k_0 rfl in_X11 (by decide) w_399 rfl dX11_flock_42 rfl ?_
        refine x_iload C dX11_flock_45 0 rfl rfl ?_
        refine x_iconst C (v := 0) dX11_flock_47 (by decide) rfl ?_
        refine x_iask C (ws1 := ws) 2 (by decide) (by decide) (by decide) 76 k_1 (by rw [upd_z]; exact set_same k_1) dX11_flock_48 rfl ?_
        refine x_iinc C (v := 3) (lv' := [(4, .int 3), (0, .ref x), (1, .int (nI a)), (2, .int (nI nn)), (3, .int wh)]) dX11_flock_49 0 rfl (by decide) (by decide) rfl rfl ?_
        refine x_goto C (tgt := 34) dX11_flock_52 (by decide) ?_
        refine x_iload C dX11_flock_34 0 rfl rfl ?_
        refine x_bipush C (v := 20) dX11_flock_36 (by decide) rfl ?_
        refine x_icmp_gt C (tgt := 55) dX11_flock_38 (by decide) rfl (fun h => absurd h (by decide)) (fun _ => ?_)
        refine x_aload_n C dX11_flock_41 rfl 1 rfl rfl ?_
        refine x_get C (ci := 10) (k := 14) 0 k_0 rfl in_X11 (by decide) w_399 rfl dX11_flock_42 rfl ?_
        refine x_iload C dX11_flock_45 0 rfl rfl ?_
        refine x_iconst C (v := 0) dX11_flock_47 (by decide) rfl ?_
        refine x_iask C (ws1 := ws) 3 (by decide) (by decide) (by decide) 76 k_1 (by rw [upd_z]; exact set_same k_1) dX11_flock_48 rfl ?_
        refine x_iinc C (v := 4) (lv' := [(4, .int 4), (0, .ref x), (1, .int (nI a)), (2, .int (nI nn)), (3, .int wh)]) dX11_flock_49 0 rfl (by decide) (by decide) rfl rfl ?_
        refine x_goto C (tgt := 34) dX11_flock_52 (by decide) ?_
        refine x_iload C dX11_flock_34 0 rfl rfl ?_
        refine x_bipush C (v := 20) dX11_flock_36 (by decide) rfl ?_
        refine x_icmp_gt C (tgt := 55) dX11_flock_38 (by decide) rfl (fun h => absurd h (by decide)) (fun _ => ?_)
        refine x_aload_n C dX11_flock_41 rfl 1 rfl rfl ?_
        refine x_get C (ci := 10) (k := 14) 0 k_0 rfl in_X11 (by decide) w_399 rfl dX11_flock_42 rfl ?_
        refine x_iload C dX11_flock_45 0 rfl rfl ?_
        refine x_iconst C (v := 0) dX11_flock_47 (by decide) rfl ?_
        refine x_iask C (ws1 := ws) 4 (by decide) (by decide) (by decide) 76 k_1 (by rw [upd_z]; exact set_same k_1) dX11_flock_48 rfl ?_
        refine x_iinc C (v := 5) (lv' := [(4, .int 5), (0, .ref x), (1, .int (nI a)), (2, .int (nI nn)), (3, .int wh)]) dX11_flock_49 0 rfl (by decide) (by decide) rfl rfl ?_
        refine x_goto C (tgt := 34) dX11_flock_52 (by decide) ?_
        refine x_iload C dX11_flock_34 0 rfl rfl ?_
        refine x_bipush C (v := 20) dX11_flock_36 (by decide) rfl ?_
        refine x_icmp_gt C (tgt := 55) dX11_flock_38 (by decide) rfl (fun h => absurd h (by decide)) (fun _ => ?_)
        refine x_aload_n C dX11_flock_41 rfl 1 rfl rfl ?_
        refine x_get C (ci := 10) (k := 14) 0 k_0 rfl in_X11 (by decide) w_399 rfl dX11_flock_42 rfl ?_
        refine x_iload C dX11_flock_45 0 rfl rfl ?_
        refine x_iconst C (v := 0) dX11_flock_47 (by decide) rfl ?_
        refine x_iask C (ws1 := ws) 5 (by decide) (by decide) (by decide) 76 k_1 (by rw [upd_z]; exact set_same k_1) dX11_flock_48 rfl ?_
        refine x_iinc C (v := 6) (lv' := [(4, .int 6), (0, .ref x), (1, .int (nI a)), (2, .int (nI nn)), (3, .int wh)]) dX11_flock_49 0 rfl (by decide) (by decide) rfl rfl ?_
        refine x_goto C (tgt := 34) dX11_flock_52 (by decide) ?_
        refine x_iload C dX11_flock_34 0 rfl rfl ?_
        refine x_bipush C (v := 20) dX11_flock_36 (by decide) rfl ?_
        refine x_icmp_gt C (tgt := 55) dX11_flock_38 (by decide) rfl (fun h => absurd h (by decide)) (fun _ => ?_)
        refine x_aload_n C dX11_flock_41 rfl 1 rfl rfl ?_
        refine x_get C (ci := 10) (k := 14) 0 k_0 rfl in_X11 (by decide) w_399 rfl dX11_flock_42 rfl ?_
        refine x_iload C dX11_flock_45 0 rfl rfl ?_
        refine x_iconst C (v := 0) dX11_flock_47 (by decide) rfl ?_
        refine x_iask C (ws1 := ws) 6 (by decide) (by decide) (by decide) 76 k_1 (by rw [upd_z]; exact set_same k_1) dX11_flock_48 rfl ?_
        refine x_iinc C (v := 7) (lv' := [(4, .int 7), (0, .ref x), (1, .int (nI a)), (2, .int (nI nn)), (3, .int wh)]) dX11_flock_49 0 rfl (by decide) (by decide) rfl rfl ?_
        refine x_goto C (tgt := 34) dX11_flock_52 (by decide) ?_
        refine x_iload C dX11_flock_34 0 rfl rfl ?_
        refine x_bipush C (v := 20) dX11_flock_36 (by decide) rfl ?_
        refine x_icmp_gt C (tgt := 55) dX11_flock_38 (by decide) rfl (fun h => absurd h (by decide)) (fun _ => ?_)
        refine x_aload_n C dX11_flock_41 rfl 1 rfl rfl ?_
        refine x_get C (ci := 10) (k := 14) 0 k_0 rfl in_X11 (by decide) w_399 rfl dX11_flock_42 rfl ?_
        refine x_iload C dX11_flock_45 0 rfl rfl ?_
        refine x_iconst C (v := 0) dX11_flock_47 (by decide) rfl ?_
        refine x_iask C (ws1 := ws) 7 (by decide) (by decide) (by decide) 76 k_1 (by rw [upd_z]; exact set_same k_1) dX11_flock_48 rfl ?_
        refine x_iinc C (v := 8) (lv' := [(4, .int 8), (0, .ref x), (1, .int (nI a)), (2, .int (nI nn)), (3, .int wh)]) dX11_flock_49 0 rfl (by decide) (by decide) rfl rfl ?_
        refine x_goto C (tgt := 34) dX11_flock_52 (by decide) ?_
        refine x_iload C dX11_flock_34 0 rfl rfl ?_
        refine x_bipush C (v := 20) dX11_flock_36 (by decide) rfl ?_
        refine x_icmp_gt C (tgt := 55) dX11_flock_38 (by decide) rfl (fun h => absurd h (by decide)) (fun _ => ?_)
        refine x_aload_n C dX11_flock_41 rfl 1 rfl rfl ?_
        refine x_get C (ci := 10) (k := 14) 0 k_0 rfl in_X11 (by decide) w_399 rfl dX11_flock_42 rfl ?_
        refine x_iload C dX11_flock_45 0 rfl rfl ?_
        refine x_iconst C (v := 0) dX11_flock_47 (by decide) rfl ?_
        refine x_iask C (ws1 := ws) 8 (by decide) (by decide) (by decide) 76 k_1 (by rw [upd_z]; exact set_same k_1) dX11_flock_48 rfl ?_
        refine x_iinc C (v := 9) (lv' := [(4, .int 9), (0, .ref x), (1, .int (nI a)), (2, .int (nI nn)), (3, .int wh)]) dX11_flock_49 0 rfl (by decide) (by decide) rfl rfl ?_
        refine x_goto C (tgt := 34) dX11_flock_52 (by decide) ?_
        refine x_iload C dX11_flock_34 0 rfl rfl ?_
        refine x_bipush C (v := 20) dX11_flock_36 (by decide) rfl ?_
        refine x_icmp_gt C (tgt := 55) dX11_flock_38 (by decide) rfl (fun h => absurd h (by decide)) (fun _ => ?_)
        refine x_aload_n C dX11_flock_41 rfl 1 rfl rfl ?_
        refine x_get C (ci := 10) (k := 14) 0 k_0 rfl in_X11 (by decide) w_399 rfl dX11_flock_42 rfl ?_
        refine x_iload C dX11_flock_45 0 rfl rfl ?_
        refine x_iconst C (v := 0) dX11_flock_47 (by decide) rfl ?_
        refine x_iask C (ws1 := ws) 9 (by decide) (by decide) (by decide) 76 k_1 (by rw [upd_z]; exact set_same k_1) dX11_flock_48 rfl ?_
        refine x_iinc C (v := 10) (lv' := [(4, .int 10), (0, .ref x), (1, .int (nI a)), (2, .int (nI nn)), (3, .int wh)]) dX11_flock_49 0 rfl (by decide) (by decide) rfl rfl ?_
        refine x_goto C (tgt := 34) dX11_flock_52 (by decide) ?_
        refine x_iload C dX11_flock_34 0 rfl rfl ?_
        refine x_bipush C (v := 20) dX11_flock_36 (by decide) rfl ?_
        refine x_icmp_gt C (tgt := 55) dX11_flock_38 (by decide) rfl (fun h => absurd h (by decide)) (fun _ => ?_)
        refine x_aload_n C dX11_flock_41 rfl 1 rfl rfl ?_
        refine x_get C (ci := 10) (k := 14) 0 k_0 rfl in_X11 (by decide) w_399 rfl dX11_flock_42 rfl ?_
        refine x_iload C dX11_flock_45 0 rfl rfl ?_
        refine x_iconst C (v := 0) dX11_flock_47 (by decide) rfl ?_
        refine x_iask C (ws1 := ws) 10 (by decide) (by decide) (by decide) 76 k_1 (by rw [upd_z]; exact set_same k_1) dX11_flock_48 rfl ?_
        refine x_iinc C (v := 11) (lv' := [(4, .int 11), (0, .ref x), (1, .int (nI a)), (2, .int (nI nn)), (3, .int wh)]) dX11_flock_49 0 rfl (by decide) (by decide) rfl rfl ?_
        refine x_goto C (tgt := 34) dX11_flock_52 (by decide) ?_
        refine x_iload C dX11_flock_34 0 rfl rfl ?_
        refine x_bipush C (v := 20) dX11_flock_36 (by decide) rfl ?_
        refine x_icmp_gt C (tgt := 55) dX11_flock_38 (by decide) rfl (fun h => absurd h (by decide)) (fun _ => ?_)
        refine x_aload_n C dX11_flock_41 rfl 1 rfl rfl ?_
        refine x_get C (ci := 10) (k := 14) 0 k_0 rfl in_X11 (by decide) w_399 rfl dX11_flock_42 rfl ?_
        refine x_iload C dX11_flock_45 0 rfl rfl ?_
        refine x_iconst C (v := 0) dX11_flock_47 (by decide) rfl ?_
        refine x_iask C (ws1 := ws) 11 (by decide) (by decide) (by decide) 76 k_1 (by rw [upd_z]; exact set_same k_1) dX11_flock_48 rfl ?_
        refine x_iinc C (v := 12) (lv' := [(4, .int 12), (0, .ref x), (1, .int (nI a)), (2, .int (nI nn)), (3, .int wh)]) dX11_flock_49 0 rfl (by decide) (by decide) rfl rfl ?_
        refine x_goto C (tgt := 34) dX11_flock_52 (by decide) ?_
        refine x_iload C dX11_flock_34 0 rfl rfl ?_
        refine x_bipush C (v := 20) dX11_flock_36 (by decide) rfl ?_
        refine x_icmp_gt C (tgt := 55) dX11_flock_38 (by decide) rfl (fun h => absurd h (by decide)) (fun _ => ?_)
        refine x_aload_n C dX11_flock_41 rfl 1 rfl rfl ?_
        refine x_get C (ci := 10) (k := 14) 0 k_0 rfl in_X11 (by decide) w_399 rfl dX11_flock_42 rfl ?_
        refine x_iload C dX11_flock_45 0 rfl rfl ?_
        refine x_iconst C (v := 0) dX11_flock_47 (by decide) rfl ?_
        refine x_iask C (ws1 := ws) 12 (by decide) (by decide) (by decide) 76 k_1 (by rw [upd_z]; exact set_same k_1) dX11_flock_48 rfl ?_
        refine x_iinc C (v := 13) (lv' := [(4, .int 13), (0, .ref x), (1, .int (nI a)), (2, .int (nI nn)), (3, .int wh)]) dX11_flock_49 0 rfl (by decide) (by decide) rfl rfl ?_
        refine x_goto C (tgt := 34) dX11_flock_52 (by decide) ?_
        refine x_iload C dX11_flock_34 0 rfl rfl ?_
        refine x_bipush C (v := 20) dX11_flock_36 (by decide) rfl ?_
        refine x_icmp_gt C (tgt := 55) dX11_flock_38 (by decide) rfl (fun h => absurd h (by decide)) (fun _ => ?_)
        refine x_aload_n C dX11_flock_41 rfl 1 rfl rfl ?_
        refine x_get C (ci := 10) (k := 14) 0 k_0 rfl in_X11 (by decide) w_399 rfl dX11_flock_42 rfl ?_
        refine x_iload C dX11_flock_45 0 rfl rfl ?_
        refine x_iconst C (v := 0) dX11_flock_47 (by decide) rfl ?_
        refine x_iask C (ws1 := ws) 13 (by decide) (by decide) (by decide) 76 k_1 (by rw [upd_z]; exact set_same k_1) dX11_flock_48 rfl ?_
        refine x_iinc C (v := 14) (lv' := [(4, .int 14), (0, .ref x), (1, .int (nI a)), (2, .int (nI nn)), (3, .int wh)]) dX11_flock_49 0 rfl (by decide) (by decide) rfl rfl ?_
        refine x_goto C (tgt := 34) dX11_flock_52 (by decide) ?_
        refine x_iload C dX11_flock_34 0 rfl rfl ?_
        refine x_bipush C (v := 20) dX11_flock_36 (by decide) rfl ?_
        refine x_icmp_gt C (tgt := 55) dX11_flock_38 (by decide) rfl (fun h => absurd h (by decide)) (fun _ => ?_)
        refine x_aload_n C dX11_flock_41 rfl 1 rfl rfl ?_
        refine x_get C (ci := 10) (k := 14) 0 k_0 rfl in_X11 (by decide) w_399 rfl dX11_flock_42 rfl ?_
        refine x_iload C dX11_flock_45 0 rfl rfl ?_
        refine x_iconst C (v := 0) dX11_flock_47 (by decide) rfl ?_
        refine x_iask C (ws1 := ws) 14 (by decide) (by decide) (by decide) 76 k_1 (by rw [upd_z]; exact set_same k_1) dX11_flock_48 rfl ?_
        refine x_iinc C (v := 15) (lv' := [(4, .int 15), (0, .ref x), (1, .int (nI a)), (2, .int (nI nn)), (3, .int wh)]) dX11_flock_49 0 rfl (by decide) (by decide) rfl rfl ?_
        refine x_goto C (tgt := 34) dX11_flock_52 (by decide) ?_
        refine x_iload C dX11_flock_34 0 rfl rfl ?_
        refine x_bipush C (v := 20) dX11_flock_36 (by decide) rfl ?_
        refine x_icmp_gt C (tgt := 55) dX11_flock_38 (by decide) rfl (fun h => absurd h (by decide)) (fun _ => ?_)
        refine x_aload_n C dX11_flock_41 rfl 1 rfl rfl ?_
        refine x_get C (ci := 10) (k := 14) 0 k_0 rfl in_X11 (by decide) w_399 rfl dX11_flock_42 rfl ?_
        refine x_iload C dX11_flock_45 0 rfl rfl ?_
        refine x_iconst C (v := 0) dX11_flock_47 (by decide) rfl ?_
        refine x_iask C (ws1 := ws) 15 (by decide) (by decide) (by decide) 76 k_1 (by rw [upd_z]; exact set_same k_1) dX11_flock_48 rfl ?_
        refine x_iinc C (v := 16) (lv' := [(4, .int 16), (0, .ref x), (1, .int (nI a)), (2, .int (nI nn)), (3, .int wh)]) dX11_flock_49 0 rfl (by decide) (by decide) rfl rfl ?_
        refine x_goto C (tgt := 34) dX11_flock_52 (by decide) ?_
        refine x_iload C dX11_flock_34 0 rfl rfl ?_
        refine x_bipush C (v := 20) dX11_flock_36 (by decide) rfl ?_
        refine x_icmp_gt C (tgt := 55) dX11_flock_38 (by decide) rfl (fun h => absurd h (by decide)) (fun _ => ?_)
        refine x_aload_n C dX11_flock_41 rfl 1 rfl rfl ?_
        refine x_get C (ci := 10) (k := 14) 0 k_0 rfl in_X11 (by decide) w_399 rfl dX11_flock_42 rfl ?_
        refine x_iload C dX11_flock_45 0 rfl rfl ?_
        refine x_iconst C (v := 0) dX11_flock_47 (by decide) rfl ?_
        refine x_iask C (ws1 := ws) 16 (by decide) (by decide) (by decide) 76 k_1 (by rw [upd_z]; exact set_same k_1) dX11_flock_48 rfl ?_
        refine x_iinc C (v := 17) (lv' := [(4, .int 17), (0, .ref x), (1, .int (nI a)), (2, .int (nI nn)), (3, .int wh)]) dX11_flock_49 0 rfl (by decide) (by decide) rfl rfl ?_
        refine x_goto C (tgt := 34) dX11_flock_52 (by decide) ?_
        refine x_iload C dX11_flock_34 0 rfl rfl ?_
        refine x_bipush C (v := 20) dX11_flock_36 (by decide) rfl ?_
        refine x_icmp_gt C (tgt := 55) dX11_flock_38 (by decide) rfl (fun h => absurd h (by decide)) (fun _ => ?_)
        refine x_aload_n C dX11_flock_41 rfl 1 rfl rfl ?_
        refine x_get C (ci := 10) (k := 14) 0 k_0 rfl in_X11 (by decide) w_399 rfl dX11_flock_42 rfl ?_
        refine x_iload C dX11_flock_45 0 rfl rfl ?_
        refine x_iconst C (v := 0) dX11_flock_47 (by decide) rfl ?_
        refine x_iask C (ws1 := ws) 17 (by decide) (by decide) (by decide) 76 k_1 (by rw [upd_z]; exact set_same k_1) dX11_flock_48 rfl ?_
        refine x_iinc C (v := 18) (lv' := [(4, .int 18), (0, .ref x), (1, .int (nI a)), (2, .int (nI nn)), (3, .int wh)]) dX11_flock_49 0 rfl (by decide) (by decide) rfl rfl ?_
        refine x_goto C (tgt := 34) dX11_flock_52 (by decide) ?_
        refine x_iload C dX11_flock_34 0 rfl rfl ?_
        refine x_bipush C (v := 20) dX11_flock_36 (by decide) rfl ?_
        refine x_icmp_gt C (tgt := 55) dX11_flock_38 (by decide) rfl (fun h => absurd h (by decide)) (fun _ => ?_)
        refine x_aload_n C dX11_flock_41 rfl 1 rfl rfl ?_
        refine x_get C (ci := 10) (k := 14) 0 k_0 rfl in_X11 (by decide) w_399 rfl dX11_flock_42 rfl ?_
        refine x_iload C dX11_flock_45 0 rfl rfl ?_
        refine x_iconst C (v := 0) dX11_flock_47 (by decide) rfl ?_
        refine x_iask C (ws1 := ws) 18 (by decide) (by decide) (by decide) 76 k_1 (by rw [upd_z]; exact set_same k_1) dX11_flock_48 rfl ?_
        refine x_iinc C (v := 19) (lv' := [(4, .int 19), (0, .ref x), (1, .int (nI a)), (2, .int (nI nn)), (3, .int wh)]) dX11_flock_49 0 rfl (by decide) (by decide) rfl rfl ?_
        refine x_goto C (tgt := 34) dX11_flock_52 (by decide) ?_
        refine x_iload C dX11_flock_34 0 rfl rfl ?_
        refine x_bipush C (v := 20) dX11_flock_36 (by decide) rfl ?_
        refine x_icmp_gt C (tgt := 55) dX11_flock_38 (by decide) rfl (fun h => absurd h (by decide)) (fun _ => ?_)
        refine x_aload_n C dX11_flock_41 rfl 1 rfl rfl ?_
        refine x_get C (ci := 10) (k := 14) 0 k_0 rfl in_X11 (by decide) w_399 rfl dX11_flock_42 rfl ?_
        refine x_iload C dX11_flock_45 0 rfl rfl ?_
        refine x_iconst C (v := 0) dX11_flock_47 (by decide) rfl ?_
        refine x_iask C (ws1 := ws) 19 (by decide) (by decide) (by decide) 76 k_1 (by rw [upd_z]; exact set_same k_1) dX11_flock_48 rfl ?_
        refine x_iinc C (v := 20) (lv' := [(4, .int 20), (0, .ref x), (1, .int (nI a)), (2, .int (nI nn)), (3, .int wh)]) dX11_flock_49 0 rfl (by decide) (by decide) rfl rfl ?_
        refine x_goto C (tgt := 34) dX11_flock_52 (by decide) ?_
        refine x_iload C dX11_flock_34 0 rfl rfl ?_
        refine x_bipush C (v := 20) dX11_flock_36 (by decide) rfl ?_
        refine x_icmp_gt C (tgt := 55) dX11_flock_38 (by decide) rfl (fun h => absurd h (by decide)) (fun _ => ?_)
        refine x_aload_n C dX11_flock_41 rfl 1 rfl rfl ?_
        refine x_get C (ci := 10) (k := 14) 0 k_0 rfl in_X11 (by decide) w_399 rfl dX11_flock_42 rfl ?_
        refine x_iload C dX11_flock_45 0 rfl rfl ?_
        refine x_iconst C (v := 0) dX11_flock_47 (by decide) rfl ?_
        refine x_iask C (ws1 := ws) 20 (by decide) (by decide) (by decide) 76 k_1 (by rw [upd_z]; exact set_same k_1) dX11_flock_48 rfl ?_
        refine x_iinc C (v := 21) (lv' := [(4, .int 21), (0, .ref x), (1, .int (nI a)), (2, .int (nI nn)), (3, .int wh)]) dX11_flock_49 0 rfl (by decide) (by decide) rfl rfl ?_
        refine x_goto C (tgt := 34) dX11_flock_52 (by decide) ?_
        refine x_iload C dX11_flock_34 0 rfl rfl ?_
        refine x_bipush C (v := 20) dX11_flock_36 (by decide) rfl ?_
        refine x_icmp_gt C (tgt := 55) dX11_flock_38 (by decide) rfl (fun _ => ?_) (fun h => absurd h (by decide))
        refine x_iconst C (v := 0) dX11_flock_55 (by decide) rfl ?_
        refine x_istore C (lv' := [(4, .int 0), (0, .ref x), (1, .int (nI a)), (2, .int (nI nn)), (3, .int wh)]) dX11_flock_56 (by decide) rfl rfl ?_
        refine x_iconst C (v := 0) dX11_flock_58 (by decide) rfl ?_
        refine x_istore C (lv' := [(5, .int 0), (4, .int 0), (0, .ref x), (1, .int (nI a)), (2, .int (nI nn)), (3, .int wh)]) dX11_flock_59 (by decide) rfl rfl ?_
        have loop : ∀ (m1 d : Nat) (wl : va_W) (f : Nat → Int32) (ht : Int32), d ≤ nn → nn - d < m1 → wl[0]? = some (ob x 10 [.ref xt, .ref xk, .ref xn, .ref xp, .ref xtr, .int 0, .ref xr, .ref xs, .ref xl, .ref xpl, .ref xse, .ref ah, .ref ald, .ref arm, .ref ahr, .ref ash, .ref arw, .ref abr, .ref aw]) → wl[76]? = some (iA E ahr 21 f) → (∀ j, 1 ≤ j → j ≤ 20 → f j = nI (fh d j)) → (1 ≤ d → ht = nI (fb (d - 1) a)) → X E p l e (xRm 2 0 0) s m ([.ref x, .int (nI a), .int (nI nn), .int wh] : List Value).toArray below meth c A 8 0 0 (MQ below (va_Qi (fun r w => r = flk (nI a) (nI nn) wh) (xB E A) A) ([.ref x, .int (nI a), .int (nI nn), .int wh] : List Value).toArray s 0 0 A) wl 61 [(5, .int (nI d)), (4, .int ht), (0, .ref x), (1, .int (nI a)), (2, .int (nI nn)), (3, .int wh)] [] := by
          intro m1
          induction m1 with
          | zero => intro d _ _ _ _ h; omega
          | succ m1 ih =>
            intro d wl f ht h1 h2 z0 z1 hf hht
            refine x_iload C dX11_flock_61 0 rfl rfl ?_
            refine x_iload_n C dX11_flock_63 rfl 4 rfl rfl ?_
            refine x_icmp_ge C (tgt := 135) dX11_flock_64 (by decide) rfl (fun c24 => ?_) (fun c24 => ?_)
            · skip
              have hdeq : d = nn := by
                have := nI_le' c24 (by omega) (by omega)
                omega
              refine x_iload_n C dX11_flock_135 rfl 5 rfl rfl ?_
              refine x_if_ne C (tgt := 148) dX11_flock_136 (by decide) rfl (fun c25 => ?_) (fun c25 => ?_)
              · skip
                refine x_iload C dX11_flock_148 1 rfl rfl ?_
                exact x_zret C hr hlk rfl dX11_flock_150 (by rw [flk, if_pos hin3, if_neg c25, nI_clamp (by omega), nI_clamp (by omega), hht (by omega), hdeq])
              · skip
                refine x_aload_n C dX11_flock_139 rfl 2 rfl rfl ?_
                refine x_get C (ci := 10) (k := 14) 0 z0 rfl in_X11 (by decide) w_399 rfl dX11_flock_140 rfl ?_
                refine x_iload_n C dX11_flock_143 rfl 3 rfl rfl ?_
                refine x_iald C (v := nI (fh nn a)) 76 z1 (vp_in_nI (by omega) (by decide)) (by rw [nI_clamp (by omega), hf a ha1 ha2, hdeq]) dX11_flock_144 rfl ?_
                refine x_goto C (tgt := 150) dX11_flock_145 (by decide) ?_
                exact x_zret C hr hlk rfl dX11_flock_150 (by rw [flk, if_pos hin3, if_pos c25, nI_clamp (by omega), nI_clamp (by omega)])
            · skip
              have hdn : d + 1 ≤ nn := nI_nle' c24 (by omega) (by omega)
              refine x_iconst C (v := 1) dX11_flock_67 (by decide) rfl ?_
              refine x_istore C (lv' := [(6, .int 1), (5, .int (nI d)), (4, .int ht), (0, .ref x), (1, .int (nI a)), (2, .int (nI nn)), (3, .int wh)]) dX11_flock_68 (by decide) rfl rfl ?_
              have inner : ∀ (m2 h : Nat) (wi : va_W) (f : Nat → Int32) (ht : Int32), 1 ≤ h → h ≤ 21 → 21 - h < m2 → wi[0]? = some (ob x 10 [.ref xt, .ref xk, .ref xn, .ref xp, .ref xtr, .int 0, .ref xr, .ref xs, .ref xl, .ref xpl, .ref xse, .ref ah, .ref ald, .ref arm, .ref ahr, .ref ash, .ref arw, .ref abr, .ref aw]) → wi[76]? = some (iA E ahr 21 f) → (∀ j, 1 ≤ j → j ≤ 20 → f j = nI (if j < h then fh (d + 1) j else fh d j)) → (a < h → ht = nI (fb d a)) → X E p l e (xRm 2 0 0) s m ([.ref x, .int (nI a), .int (nI nn), .int wh] : List Value).toArray below meth c A 8 0 0 (MQ below (va_Qi (fun r w => r = flk (nI a) (nI nn) wh) (xB E A) A) ([.ref x, .int (nI a), .int (nI nn), .int wh] : List Value).toArray s 0 0 A) wi 70 [(6, .int (nI h)), (5, .int (nI d)), (4, .int ht), (0, .ref x), (1, .int (nI a)), (2, .int (nI nn)), (3, .int wh)] [] := by
                intro m2
                induction m2 with
                | zero => intro h _ _ _ _ _ q; omega
                | succ m2 ih2 =>
                  intro h wi f ht g1 g2 g3 y0 y1 hf hht
                  refine x_iload C dX11_flock_70 0 rfl rfl ?_
                  refine x_bipush C (v := 20) dX11_flock_72 (by decide) rfl ?_
                  refine x_icmp_gt C (tgt := 129) dX11_flock_74 (by decide) rfl (fun c26 => ?_) (fun c26 => ?_)
                  · skip
                    have h21 : h = 21 := by
                      have := nI_lt' (a := 20) c26 (by decide) (by omega)
                      omega
                    refine x_iinc C (v := ((nI d) + 1)) (lv' := [(5, .int ((nI d) + 1)), (6, .int (nI h)), (4, .int ht), (0, .ref x), (1, .int (nI a)), (2, .int (nI nn)), (3, .int wh)]) dX11_flock_129 1 rfl rfl (by decide) rfl rfl ?_
                    refine x_goto C (tgt := 61) dX11_flock_132 (by decide) ?_
                    refine x_lv (lv1 := [(5, .int (nI d + 1)), (4, .int ht), (0, .ref x), (1, .int (nI a)), (2, .int (nI nn)), (3, .int wh)]) [0, 2, 3, 4, 5, 6] rfl ?_
                    rw [nI_1]
                    exact ih (d + 1) wi f ht hdn (by omega) y0 y1 (fun j q1 q2 => by rw [hf j q1 q2, if_pos (by omega)]) (fun _ => hht (by omega))
                  · skip
                    have hh20 : h ≤ 20 := nI_nlt' (a := 20) c26 (by decide) (by omega)
                    have hbl := fb_le d h
                    have hm1 := mn_le h
                    have hm2 := mn_20 hh20
                    refine x_aload_n C dX11_flock_77 rfl 3 rfl rfl ?_
                    refine x_iload C dX11_flock_78 0 rfl rfl ?_
                    refine x_vi C (As := [.int (nI h)]) (rest := []) (t_bestHatch E l wi 0 y0 76 y1 (fh d) h hh20 (fun j q => by have := fh_le d j q; omega) (fun j q1 q2 => by rw [hf j (by omega) q2, if_neg (by omega)])) mf_X11_bestHatch w_971 0 y0 rfl rfl rfl (Nat.le_of_ble_eq_true rfl) ⟨(Nat.le_of_ble_eq_true rfl), (Nat.le_of_ble_eq_true rfl)⟩ ⟨(Nat.le_of_ble_eq_true rfl), (Nat.le_of_ble_eq_true rfl)⟩ dX11_flock_80 rfl (fun rr27 w28 h29 => ?_)
                    obtain ⟨e30, g31⟩ := h29
                    refine x_top (v := nI (fb d h)) e30 (x_ws g31 ?_)
                    refine x_istore C (lv' := [(7, .int (nI (fb d h))), (6, .int (nI h)), (5, .int (nI d)), (4, .int ht), (0, .ref x), (1, .int (nI a)), (2, .int (nI nn)), (3, .int wh)]) dX11_flock_83 (by decide) rfl rfl ?_
                    refine x_iload C dX11_flock_85 1 rfl rfl ?_
                    refine x_iload_n C dX11_flock_87 rfl 5 rfl rfl ?_
                    refine x_icmp_ne C (tgt := 96) dX11_flock_88 (by decide) rfl (fun c32 => ?_) (fun c32 => ?_)
                    · skip
                      have hne : ¬ h = a := fun q => c32 (by rw [q])
                      refine x_iload C dX11_flock_96 3 rfl rfl ?_
                      refine x_istore C (lv' := [(4, .int ht), (7, .int (nI (fb d h))), (6, .int (nI h)), (5, .int (nI d)), (0, .ref x), (1, .int (nI a)), (2, .int (nI nn)), (3, .int wh)]) dX11_flock_98 (by decide) rfl rfl ?_
                      refine x_aload_n C dX11_flock_100 rfl 4 rfl rfl ?_
                      refine x_get C (ci := 10) (k := 14) 0 y0 rfl in_X11 (by decide) w_399 rfl dX11_flock_101 rfl ?_
                      refine x_iload C dX11_flock_104 2 rfl rfl ?_
                      refine x_iload C dX11_flock_106 2 rfl rfl ?_
                      refine x_iload C dX11_flock_108 1 rfl rfl ?_
                      refine x_isub C (v := ((nI h) - (nI (fb d h)))) dX11_flock_110 rfl rfl ?_
                      refine x_top (v := (nI (h - fb d h))) (pk_sub (by omega)) ?_
                      refine x_aload_n C dX11_flock_111 rfl 4 rfl rfl ?_
                      refine x_get C (ci := 10) (k := 14) 0 y0 rfl in_X11 (by decide) w_399 rfl dX11_flock_112 rfl ?_
                      refine x_iload C dX11_flock_115 2 rfl rfl ?_
                      refine x_iload C dX11_flock_117 1 rfl rfl ?_
                      refine x_iadd C (v := ((nI h) + (nI (fb d h)))) dX11_flock_119 rfl rfl ?_
                      refine x_top (v := (nI (h + fb d h))) (nI_add _ _) ?_
                      refine x_iald C (v := nI (fh d (h + fb d h))) 76 y1 (vp_in_nI (by omega) (by decide)) (by rw [nI_clamp (by omega), hf _ (by omega) (by omega), if_neg (by omega)]) dX11_flock_120 rfl ?_
                      refine x_iadd C (v := ((nI (h - fb d h)) + (nI (fh d (h + fb d h))))) dX11_flock_121 rfl rfl ?_
                      refine x_top (v := (nI (fh (d + 1) h))) (nI_add _ _) ?_
                      obtain ⟨w33, hw34⟩ : ∃ w : va_W, w = List.set wi 76 (iA E ahr 21 (upd f h (nI (fh (d + 1) h)))) := ⟨_, rfl⟩
                      refine x_iask C h (nI_clamp (by omega)) (nI_pos (by omega)) (by omega) 76 y1 hw34.symm dX11_flock_122 rfl ?_
                      have k35 : w33[0]? = some (ob x 10 [.ref xt, .ref xk, .ref xn, .ref xp, .ref xtr, .int 0, .ref xr, .ref xs, .ref xl, .ref xpl, .ref xse, .ref ah, .ref ald, .ref arm, .ref ahr, .ref ash, .ref arw, .ref abr, .ref aw]) := by rw [hw34]; exact set_ne y0 (by decide)
                      have k36 : w33[76]? = some (iA E ahr 21 (upd f h (nI (fh (d + 1) h)))) := by rw [hw34]; exact set_eq y1
                      refine x_iinc C (v := ((nI h) + 1)) (lv' := [(6, .int ((nI h) + 1)), (4, .int ht), (7, .int (nI (fb d h))), (5, .int (nI d)), (0, .ref x), (1, .int (nI a)), (2, .int (nI nn)), (3, .int wh)]) dX11_flock_123 2 rfl rfl (by decide) rfl rfl ?_
                      refine x_goto C (tgt := 70) dX11_flock_126 (by decide) ?_
                      refine x_lv (lv1 := [(6, .int (nI h + 1)), (5, .int (nI d)), (4, .int ht), (0, .ref x), (1, .int (nI a)), (2, .int (nI nn)), (3, .int wh)]) [0, 3, 1, 4, 5, 6, 7] rfl ?_
                      rw [nI_1]
                      exact ih2 (h + 1) w33 _ ht (by omega) (by omega) (by omega) k35 k36 (fl_step hf hh20 g1 (by omega)) (fun q => hht (by have := hne; omega))
                    · skip
                      have hae : a = h := ((nI_eq (by omega) (by omega)).mp c32).symm
                      refine x_iload C dX11_flock_91 0 rfl rfl ?_
                      refine x_goto C (tgt := 98) dX11_flock_93 (by decide) ?_
                      refine x_istore C (lv' := [(4, .int (nI (fb d h))), (7, .int (nI (fb d h))), (6, .int (nI h)), (5, .int (nI d)), (0, .ref x), (1, .int (nI a)), (2, .int (nI nn)), (3, .int wh)]) dX11_flock_98 (by decide) rfl rfl ?_
                      refine x_aload_n C dX11_flock_100 rfl 4 rfl rfl ?_
                      refine x_get C (ci := 10) (k := 14) 0 y0 rfl in_X11 (by decide) w_399 rfl dX11_flock_101 rfl ?_
                      refine x_iload C dX11_flock_104 2 rfl rfl ?_
                      refine x_iload C dX11_flock_106 2 rfl rfl ?_
                      refine x_iload C dX11_flock_108 1 rfl rfl ?_
                      refine x_isub C (v := ((nI h) - (nI (fb d h)))) dX11_flock_110 rfl rfl ?_
                      refine x_top (v := (nI (h - fb d h))) (pk_sub (by omega)) ?_
                      refine x_aload_n C dX11_flock_111 rfl 4 rfl rfl ?_
                      refine x_get C (ci := 10) (k := 14) 0 y0 rfl in_X11 (by decide) w_399 rfl dX11_flock_112 rfl ?_
                      refine x_iload C dX11_flock_115 2 rfl rfl ?_
                      refine x_iload C dX11_flock_117 1 rfl rfl ?_
                      refine x_iadd C (v := ((nI h) + (nI (fb d h)))) dX11_flock_119 rfl rfl ?_
                      refine x_top (v := (nI (h + fb d h))) (nI_add _ _) ?_
                      refine x_iald C (v := nI (fh d (h + fb d h))) 76 y1 (vp_in_nI (by omega) (by decide)) (by rw [nI_clamp (by omega), hf _ (by omega) (by omega), if_neg (by omega)]) dX11_flock_120 rfl ?_
                      refine x_iadd C (v := ((nI (h - fb d h)) + (nI (fh d (h + fb d h))))) dX11_flock_121 rfl rfl ?_
                      refine x_top (v := (nI (fh (d + 1) h))) (nI_add _ _) ?_
                      obtain ⟨w37, hw38⟩ : ∃ w : va_W, w = List.set wi 76 (iA E ahr 21 (upd f h (nI (fh (d + 1) h)))) := ⟨_, rfl⟩
                      refine x_iask C h (nI_clamp (by omega)) (nI_pos (by omega)) (by omega) 76 y1 hw38.symm dX11_flock_122 rfl ?_
                      have k39 : w37[0]? = some (ob x 10 [.ref xt, .ref xk, .ref xn, .ref xp, .ref xtr, .int 0, .ref xr, .ref xs, .ref xl, .ref xpl, .ref xse, .ref ah, .ref ald, .ref arm, .ref ahr, .ref ash, .ref arw, .ref abr, .ref aw]) := by rw [hw38]; exact set_ne y0 (by decide)
                      have k40 : w37[76]? = some (iA E ahr 21 (upd f h (nI (fh (d + 1) h)))) := by rw [hw38]; exact set_eq y1
                      refine x_iinc C (v := ((nI h) + 1)) (lv' := [(6, .int ((nI h) + 1)), (4, .int (nI (fb d h))), (7, .int (nI (fb d h))), (5, .int (nI d)), (0, .ref x), (1, .int (nI a)), (2, .int (nI nn)), (3, .int wh)]) dX11_flock_123 2 rfl rfl (by decide) rfl rfl ?_
                      refine x_goto C (tgt := 70) dX11_flock_126 (by decide) ?_
                      refine x_lv (lv1 := [(6, .int (nI h + 1)), (5, .int (nI d)), (4, .int (nI (fb d h))), (0, .ref x), (1, .int (nI a)), (2, .int (nI nn)), (3, .int wh)]) [0, 3, 1, 4, 5, 6, 7] rfl ?_
                      rw [nI_1]
                      exact ih2 (h + 1) w37 _ (nI (fb d h)) (by omega) (by omega) (by omega) k39 k40 (fl_step hf hh20 g1 (by omega)) (fun _ => by rw [hae])
              refine x_lv (lv1 := [(6, .int 1), (5, .int (nI d)), (4, .int ht), (0, .ref x), (1, .int (nI a)), (2, .int (nI nn)), (3, .int wh)]) [0, 1, 2, 3, 4, 5, 6] rfl ?_
              exact inner 21 1 wl f ht (by decide) (by decide) (by decide) z0 z1 (fun j q1 q2 => by rw [hf j q1 q2, if_neg (by omega)]) (fun q => absurd q (by omega))
        exact loop (nn + 1) 0 ws (fun _ => 0) 0 (Nat.zero_le _) (by omega) k_0 k_1 (fun _ _ _ => nI_0.symm) (fun h => absurd h (by decide))
      · skip
        have b41 := bI_e0 c22
        refine x_iconst C (v := (-1)) dX11_flock_29 (by decide) rfl ?_
        exact x_zret C hr hlk rfl dX11_flock_30 (by rw [flk, if_neg (fun q => by simp [b8, b16, b41] at q)])
