/-- the sign at which the text stands, out of the tape's cells -/
def sgW (w : va_W) : Int32 := match w[1]?, w[2]? with
  | some (_, Sum.inr (_, [_, Value.int sz, Value.int en, Value.int ap, _])), some (_, Sum.inl (_, _, Sum.inl f)) => if ¬ ap < 0 ∧ ¬ en ≤ ap ∧ ¬ sz ≤ ap then f ap.toNatClampNeg else -1
  | _, _ => 0
theorem sgW_eq {w : va_W} {a1 a2 c1 n : Nat} {ci : ClassId} {v : Value} {sz en ap fa : Int32} {f : Nat → Int32} (h1 : w[1]? = some (a1, .inr (c1, [v, .int sz, .int en, .int ap, .int fa]))) (h2 : w[2]? = some (a2, .inl (ci, n, .inl f))) : sgW w = if ¬ ap < 0 ∧ ¬ en ≤ ap ∧ ¬ sz ≤ ap then f ap.toNatClampNeg else -1 := by
  rw [sgW, h1, h2]
/-- a line that gives, or breaks for a work, has one of the eight as its target -/
def tgW (w : va_W) (k : Nat) : Prop := match w[88]?, w[89]? with
  | some (_, Sum.inl (_, _, Sum.inl fs)), some (_, Sum.inl (_, _, Sum.inl ft)) => (fs k = 62 ∨ fs k = 33) → wth (ft k) 0 7
  | _, _ => True
theorem tgW_iff {w : va_W} {a1 a2 n1 n2 k : Nat} {c1 c2 : ClassId} {fs ft : Nat → Int32} (h1 : w[88]? = some (a1, .inl (c1, n1, .inl fs))) (h2 : w[89]? = some (a2, .inl (c2, n2, .inl ft))) : tgW w k ↔ ((fs k = 62 ∨ fs k = 33) → wth (ft k) 0 7) := by
  rw [tgW, h1, h2]
theorem x_look {E : xE} {p : Program} {l : Launch} {e : Env} {R : Room} {s : State} {m : MethodId} {args : Array Value} {below : List Frame} {meth : Method} {c : Code} {A : Nat → Prop} {cc : ByteArray} {nL : Nat} {own : String} {cells slots : Nat} {Q : State → Prop} {ws : va_W} {pc : Nat} {lv : List (Nat × Value)} {st : List Value} (C : xC E p s m args c A cc nL own) {dflt : Int} {ps : Array (Int × Int)} {len : Nat} {x : Int32} {off : Int} {tgt : Nat} (hd : decode cc pc = .ok (.lookupswitch dflt ps, len)) (hp : (ps.toList.zip (ps.toList.drop 1)).all (fun (a, next) => a.1 < next.1) = true) (ho : Op.lookupswitch.offset ps.toList dflt x.toInt = off) (ht : (pc : Int) + off = (tgt : Int)) (k : X E p l e R s m args below meth c A nL cells slots Q ws tgt lv st) : X E p l e R s m args below meth c A nL cells slots Q ws pc lv (.int x :: st) := fun H locs ls hP hD hS hl => lv_lookup C.1 C.2.1 hd hp ho ht (k H locs ls hP hD hS hl)
set_option maxRecDepth 20000 in
set_option maxHeartbeats 4000000 in
theorem c_signE (E : xE) (l : Launch) (a : Nat → Nat) (ws : va_W) (hW : WX (okX E a) ws) : xI E l yX8_sign cX8_sign 1 (some .int) 0 [.ref (a 1)] ws (fun r w => w = ws ∧ (r = sgW ws)) := by
  refine xI_start (lv := [(0, .ref (a 1))]) RX8 (by decide) rfl (Nat.le_of_ble_eq_true rfl) rfl (fun p e s m below meth c A C hr hlk => ?_)
  obtain ⟨_, k1, n2, v4, v5, v6, bn3, rfl⟩ := hW 1 _ rfl
  obtain ⟨_, k7, f8, rfl⟩ := hW 2 _ rfl
  refine x_aload_n C dX8_sign_0 rfl 0 rfl rfl ?_
  refine x_get C (ci := 7) (k := 3) 1 k1 rfl in_X8 (by decide) w_40 rfl dX8_sign_1 rfl ?_
  refine x_if_lt C (tgt := 41) dX8_sign_4 (by decide) rfl (fun c9 => ?_) (fun c9 => ?_)
  · skip
    refine x_iconst C (v := (-1)) dX8_sign_41 (by decide) rfl ?_
    exact x_zret C hr hlk rfl dX8_sign_42 ⟨rfl, (by rw [sgW_eq k1 k7]; first | (rw [if_pos ⟨nI_pos (by omega), by assumption, fun q => absurd (nI_le' q (by omega) (by omega)) (by omega)⟩, nI_clamp (by omega)]; done) | (rw [if_neg (fun q => q.1 (by assumption))]; done) | (rw [if_neg (fun q => q.2.1 (by assumption))]; done) | (rw [if_neg (fun q => q.2.2 (by assumption))]; done))⟩
  · skip
    obtain ⟨j10, hj11, ej12⟩ := nI_of c9
    subst ej12
    refine x_aload_n C dX8_sign_7 rfl 0 rfl rfl ?_
    refine x_get C (ci := 7) (k := 3) 1 k1 rfl in_X8 (by decide) w_40 rfl dX8_sign_8 rfl ?_
    refine x_aload_n C dX8_sign_11 rfl 0 rfl rfl ?_
    refine x_get C (ci := 7) (k := 2) 1 k1 rfl in_X8 (by decide) w_39 rfl dX8_sign_12 rfl ?_
    refine x_icmp_ge C (tgt := 41) dX8_sign_15 (by decide) rfl (fun c13 => ?_) (fun c13 => ?_)
    · skip
      refine x_iconst C (v := (-1)) dX8_sign_41 (by decide) rfl ?_
      exact x_zret C hr hlk rfl dX8_sign_42 ⟨rfl, (by rw [sgW_eq k1 k7]; first | (rw [if_pos ⟨nI_pos (by omega), by assumption, fun q => absurd (nI_le' q (by omega) (by omega)) (by omega)⟩, nI_clamp (by omega)]; done) | (rw [if_neg (fun q => q.1 (by assumption))]; done) | (rw [if_neg (fun q => q.2.1 (by assumption))]; done) | (rw [if_neg (fun q => q.2.2 (by assumption))]; done))⟩
    · skip
      refine x_aload_n C dX8_sign_18 rfl 0 rfl rfl ?_
      refine x_get C (ci := 7) (k := 3) 1 k1 rfl in_X8 (by decide) w_40 rfl dX8_sign_19 rfl ?_
      refine x_aload_n C dX8_sign_22 rfl 0 rfl rfl ?_
      refine x_get C (ci := 7) (k := 1) 1 k1 rfl in_X8 (by decide) w_37 rfl dX8_sign_23 rfl ?_
      refine x_icmp_ge C (tgt := 41) dX8_sign_26 (by decide) rfl (fun c14 => ?_) (fun c14 => ?_)
      · skip
        have nf15 := nI_le' (a := n2) (b := j10) c14 (by omega) (by omega)
        refine x_iconst C (v := (-1)) dX8_sign_41 (by decide) rfl ?_
        exact x_zret C hr hlk rfl dX8_sign_42 ⟨rfl, (by rw [sgW_eq k1 k7]; first | (rw [if_pos ⟨nI_pos (by omega), by assumption, fun q => absurd (nI_le' q (by omega) (by omega)) (by omega)⟩, nI_clamp (by omega)]; done) | (rw [if_neg (fun q => q.1 (by assumption))]; done) | (rw [if_neg (fun q => q.2.1 (by assumption))]; done) | (rw [if_neg (fun q => q.2.2 (by assumption))]; done))⟩
      · skip
        have nf16 := nI_nle' (a := n2) (b := j10) c14 (by omega) (by omega)
        refine x_aload_n C dX8_sign_29 rfl 0 rfl rfl ?_
        refine x_get C (ci := 7) (k := 0) 1 k1 rfl in_X8 (by decide) w_36 rfl dX8_sign_30 rfl ?_
        refine x_aload_n C dX8_sign_33 rfl 0 rfl rfl ?_
        refine x_get C (ci := 7) (k := 3) 1 k1 rfl in_X8 (by decide) w_40 rfl dX8_sign_34 rfl ?_
        refine x_ialk C (v := (f8 j10)) j10 (nI_clamp (by omega)) (nI_pos (by omega)) (by omega) 2 k7 rfl dX8_sign_37 rfl ?_
        refine x_goto C (tgt := 42) dX8_sign_38 (by decide) ?_
        exact x_zret C hr hlk rfl dX8_sign_42 ⟨rfl, (by rw [sgW_eq k1 k7]; first | (rw [if_pos ⟨nI_pos (by omega), by assumption, fun q => absurd (nI_le' q (by omega) (by omega)) (by omega)⟩, nI_clamp (by omega)]; done) | (rw [if_neg (fun q => q.1 (by assumption))]; done) | (rw [if_neg (fun q => q.2.1 (by assumption))]; done) | (rw [if_neg (fun q => q.2.2 (by assumption))]; done))⟩
set_option maxRecDepth 20000 in
set_option maxHeartbeats 4000000 in
theorem c_isDigitE (E : xE) (l : Launch) (a : Nat → Nat) (ws : va_W) (hW : WX (okX E a) ws) (sg : Int32) : xI E l yX11_isDigit cX11_isDigit 1 (some .boolean) 0 [.int sg] ws (fun r w => w = ws ∧ zb r ∧ (¬ r = 0 → wth sg 48 57)) := by
  refine xI_start (lv := [(0, .int sg)]) RX11 (by decide) rfl (Nat.le_of_ble_eq_true rfl) rfl (fun p e s m below meth c A C hr hlk => ?_)
  refine x_iload_n C dX11_isDigit_0 rfl 0 rfl rfl ?_
  refine x_bipush C (v := 48) dX11_isDigit_1 (by decide) rfl ?_
  refine x_icmp_lt C (tgt := 16) dX11_isDigit_3 (by decide) rfl (fun c1 => ?_) (fun c1 => ?_)
  · skip
    refine x_iconst C (v := 0) dX11_isDigit_16 (by decide) rfl ?_
    exact x_zret C hr hlk rfl dX11_isDigit_17 ⟨rfl, (Or.inl rfl), (fun q => absurd rfl q)⟩
  · skip
    refine x_iload_n C dX11_isDigit_6 rfl 0 rfl rfl ?_
    refine x_bipush C (v := 57) dX11_isDigit_7 (by decide) rfl ?_
    refine x_icmp_gt C (tgt := 16) dX11_isDigit_9 (by decide) rfl (fun c2 => ?_) (fun c2 => ?_)
    · skip
      refine x_iconst C (v := 0) dX11_isDigit_16 (by decide) rfl ?_
      exact x_zret C hr hlk rfl dX11_isDigit_17 ⟨rfl, (Or.inl rfl), (fun q => absurd rfl q)⟩
    · skip
      refine x_iconst C (v := 1) dX11_isDigit_12 (by decide) rfl ?_
      refine x_goto C (tgt := 17) dX11_isDigit_13 (by decide) ?_
      exact x_zret C hr hlk rfl dX11_isDigit_17 ⟨rfl, (Or.inr rfl), (fun _ => ⟨c1, c2⟩)⟩
theorem dX0_oneEgg_0 : decode cX0_oneEgg 0 = .ok (.aload_n 1, 1) := by decide +kernel
theorem dX0_oneEgg_1 : decode cX0_oneEgg 1 = .ok (.getfield 61, 3) := by decide +kernel
theorem dX0_oneEgg_4 : decode cX0_oneEgg 4 = .ok (.istore_n 3, 1) := by decide +kernel
theorem dX0_oneEgg_5 : decode cX0_oneEgg 5 = .ok (.aload_n 1, 1) := by decide +kernel
theorem dX0_oneEgg_6 : decode cX0_oneEgg 6 = .ok (.invokevirtual 35, 3) := by decide +kernel
theorem dX0_oneEgg_9 : decode cX0_oneEgg 9 = .ok (.invokestatic 48, 3) := by decide +kernel
theorem dX0_oneEgg_12 : decode cX0_oneEgg 12 = .ok (.ifCond .ne 9, 3) := by decide +kernel
theorem dX0_oneEgg_15 : decode cX0_oneEgg 15 = .ok (.aload_n 1, 1) := by decide +kernel
theorem dX0_oneEgg_16 : decode cX0_oneEgg 16 = .ok (.iconst 1, 1) := by decide +kernel
theorem dX0_oneEgg_17 : decode cX0_oneEgg 17 = .ok (.invokevirtual 45, 3) := by decide +kernel
theorem dX0_oneEgg_20 : decode cX0_oneEgg 20 = .ok (.ireturn, 1) := by decide +kernel
theorem dX0_oneEgg_21 : decode cX0_oneEgg 21 = .ok (.iconst 0, 1) := by decide +kernel
theorem dX0_oneEgg_22 : decode cX0_oneEgg 22 = .ok (.istore 4, 2) := by decide +kernel
theorem dX0_oneEgg_24 : decode cX0_oneEgg 24 = .ok (.iconst 0, 1) := by decide +kernel
theorem dX0_oneEgg_25 : decode cX0_oneEgg 25 = .ok (.istore 5, 2) := by decide +kernel
theorem dX0_oneEgg_27 : decode cX0_oneEgg 27 = .ok (.iload 5, 2) := by decide +kernel
theorem dX0_oneEgg_29 : decode cX0_oneEgg 29 = .ok (.iconst 2, 1) := by decide +kernel
theorem dX0_oneEgg_30 : decode cX0_oneEgg 30 = .ok (.if_icmp .ge 44, 3) := by decide +kernel
theorem dX0_oneEgg_33 : decode cX0_oneEgg 33 = .ok (.aload_n 1, 1) := by decide +kernel
theorem dX0_oneEgg_34 : decode cX0_oneEgg 34 = .ok (.invokevirtual 35, 3) := by decide +kernel
theorem dX0_oneEgg_37 : decode cX0_oneEgg 37 = .ok (.invokestatic 48, 3) := by decide +kernel
theorem dX0_oneEgg_40 : decode cX0_oneEgg 40 = .ok (.ifCond .eq 34, 3) := by decide +kernel
theorem dX0_oneEgg_43 : decode cX0_oneEgg 43 = .ok (.bipush 10, 2) := by decide +kernel
theorem dX0_oneEgg_45 : decode cX0_oneEgg 45 = .ok (.iload 4, 2) := by decide +kernel
theorem dX0_oneEgg_47 : decode cX0_oneEgg 47 = .ok (.imul, 1) := by decide +kernel
theorem dX0_oneEgg_48 : decode cX0_oneEgg 48 = .ok (.aload_n 1, 1) := by decide +kernel
theorem dX0_oneEgg_49 : decode cX0_oneEgg 49 = .ok (.invokevirtual 35, 3) := by decide +kernel
theorem dX0_oneEgg_52 : decode cX0_oneEgg 52 = .ok (.iadd, 1) := by decide +kernel
theorem dX0_oneEgg_53 : decode cX0_oneEgg 53 = .ok (.bipush 48, 2) := by decide +kernel
theorem dX0_oneEgg_55 : decode cX0_oneEgg 55 = .ok (.isub, 1) := by decide +kernel
theorem dX0_oneEgg_56 : decode cX0_oneEgg 56 = .ok (.istore 4, 2) := by decide +kernel
theorem dX0_oneEgg_58 : decode cX0_oneEgg 58 = .ok (.aload_n 1, 1) := by decide +kernel
theorem dX0_oneEgg_59 : decode cX0_oneEgg 59 = .ok (.dup, 1) := by decide +kernel
theorem dX0_oneEgg_60 : decode cX0_oneEgg 60 = .ok (.getfield 61, 3) := by decide +kernel
theorem dX0_oneEgg_63 : decode cX0_oneEgg 63 = .ok (.iconst 1, 1) := by decide +kernel
theorem dX0_oneEgg_64 : decode cX0_oneEgg 64 = .ok (.iadd, 1) := by decide +kernel
theorem dX0_oneEgg_65 : decode cX0_oneEgg 65 = .ok (.putfield 61, 3) := by decide +kernel
theorem dX0_oneEgg_68 : decode cX0_oneEgg 68 = .ok (.iinc 5 1, 3) := by decide +kernel
theorem dX0_oneEgg_71 : decode cX0_oneEgg 71 = .ok (.goto (-44), 3) := by decide +kernel
theorem dX0_oneEgg_74 : decode cX0_oneEgg 74 = .ok (.iload 4, 2) := by decide +kernel
theorem dX0_oneEgg_76 : decode cX0_oneEgg 76 = .ok (.bipush 48, 2) := by decide +kernel
theorem dX0_oneEgg_78 : decode cX0_oneEgg 78 = .ok (.if_icmp .lt 10, 3) := by decide +kernel
theorem dX0_oneEgg_81 : decode cX0_oneEgg 81 = .ok (.aload_n 1, 1) := by decide +kernel
theorem dX0_oneEgg_82 : decode cX0_oneEgg 82 = .ok (.iconst 3, 1) := by decide +kernel
theorem dX0_oneEgg_83 : decode cX0_oneEgg 83 = .ok (.iload_n 3, 1) := by decide +kernel
theorem dX0_oneEgg_84 : decode cX0_oneEgg 84 = .ok (.invokevirtual 64, 3) := by decide +kernel
theorem dX0_oneEgg_87 : decode cX0_oneEgg 87 = .ok (.ireturn, 1) := by decide +kernel
theorem dX0_oneEgg_88 : decode cX0_oneEgg 88 = .ok (.iload_n 2, 1) := by decide +kernel
theorem dX0_oneEgg_89 : decode cX0_oneEgg 89 = .ok (.istore 5, 2) := by decide +kernel
theorem dX0_oneEgg_91 : decode cX0_oneEgg 91 = .ok (.iload 5, 2) := by decide +kernel
theorem dX0_oneEgg_93 : decode cX0_oneEgg 93 = .ok (.aload_n 0, 1) := by decide +kernel
theorem dX0_oneEgg_94 : decode cX0_oneEgg 94 = .ok (.getfield 28, 3) := by decide +kernel
theorem dX0_oneEgg_97 : decode cX0_oneEgg 97 = .ok (.if_icmp .ge 29, 3) := by decide +kernel
theorem dX0_oneEgg_100 : decode cX0_oneEgg 100 = .ok (.aload_n 0, 1) := by decide +kernel
theorem dX0_oneEgg_101 : decode cX0_oneEgg 101 = .ok (.getfield 25, 3) := by decide +kernel
theorem dX0_oneEgg_104 : decode cX0_oneEgg 104 = .ok (.iload 5, 2) := by decide +kernel
theorem dX0_oneEgg_106 : decode cX0_oneEgg 106 = .ok (.iaload, 1) := by decide +kernel
theorem dX0_oneEgg_107 : decode cX0_oneEgg 107 = .ok (.iload 4, 2) := by decide +kernel
theorem dX0_oneEgg_109 : decode cX0_oneEgg 109 = .ok (.if_icmp .ne 11, 3) := by decide +kernel
theorem dX0_oneEgg_112 : decode cX0_oneEgg 112 = .ok (.aload_n 1, 1) := by decide +kernel
theorem dX0_oneEgg_113 : decode cX0_oneEgg 113 = .ok (.bipush 7, 2) := by decide +kernel
theorem dX0_oneEgg_115 : decode cX0_oneEgg 115 = .ok (.iload_n 3, 1) := by decide +kernel
theorem dX0_oneEgg_116 : decode cX0_oneEgg 116 = .ok (.invokevirtual 64, 3) := by decide +kernel
theorem dX0_oneEgg_119 : decode cX0_oneEgg 119 = .ok (.ireturn, 1) := by decide +kernel
theorem dX0_oneEgg_120 : decode cX0_oneEgg 120 = .ok (.iinc 5 1, 3) := by decide +kernel
theorem dX0_oneEgg_123 : decode cX0_oneEgg 123 = .ok (.goto (-32), 3) := by decide +kernel
theorem dX0_oneEgg_126 : decode cX0_oneEgg 126 = .ok (.aload_n 0, 1) := by decide +kernel
theorem dX0_oneEgg_127 : decode cX0_oneEgg 127 = .ok (.getfield 28, 3) := by decide +kernel
theorem dX0_oneEgg_130 : decode cX0_oneEgg 130 = .ok (.sipush 140, 3) := by decide +kernel
theorem dX0_oneEgg_133 : decode cX0_oneEgg 133 = .ok (.if_icmp .ge 24, 3) := by decide +kernel
theorem dX0_oneEgg_136 : decode cX0_oneEgg 136 = .ok (.aload_n 0, 1) := by decide +kernel
theorem dX0_oneEgg_137 : decode cX0_oneEgg 137 = .ok (.getfield 25, 3) := by decide +kernel
theorem dX0_oneEgg_140 : decode cX0_oneEgg 140 = .ok (.aload_n 0, 1) := by decide +kernel
theorem dX0_oneEgg_141 : decode cX0_oneEgg 141 = .ok (.getfield 28, 3) := by decide +kernel
theorem dX0_oneEgg_144 : decode cX0_oneEgg 144 = .ok (.iload 4, 2) := by decide +kernel
theorem dX0_oneEgg_146 : decode cX0_oneEgg 146 = .ok (.iastore, 1) := by decide +kernel
theorem dX0_oneEgg_147 : decode cX0_oneEgg 147 = .ok (.aload_n 0, 1) := by decide +kernel
theorem dX0_oneEgg_148 : decode cX0_oneEgg 148 = .ok (.dup, 1) := by decide +kernel
theorem dX0_oneEgg_149 : decode cX0_oneEgg 149 = .ok (.getfield 28, 3) := by decide +kernel
theorem dX0_oneEgg_152 : decode cX0_oneEgg 152 = .ok (.iconst 1, 1) := by decide +kernel
theorem dX0_oneEgg_153 : decode cX0_oneEgg 153 = .ok (.iadd, 1) := by decide +kernel
theorem dX0_oneEgg_154 : decode cX0_oneEgg 154 = .ok (.putfield 28, 3) := by decide +kernel
theorem dX0_oneEgg_157 : decode cX0_oneEgg 157 = .ok (.iconst 1, 1) := by decide +kernel
theorem dX0_oneEgg_158 : decode cX0_oneEgg 158 = .ok (.ireturn, 1) := by decide +kernel
set_option maxRecDepth 20000 in
set_option maxHeartbeats 4000000 in
theorem c_oneEgg (E : xE) (l : Launch) (a : Nat → Nat) (ws : va_W) (hW : WX (okX E a) ws) (fi : Nat) (hfi : fi ≤ 140) : xI E l yX0_oneEgg cX0_oneEgg 6 (some .boolean) 2 [.ref (a 87), .ref (a 1), .int (nI fi)] ws (fun r w => WX (okX E a) w ∧ keeps ws w (fun q => (q = 1 ∨ q = 2) ∨ (87 ≤ q ∧ q < 92)) ∧ zb r) := by
  refine xI_start (lv := [(0, .ref (a 87)), (1, .ref (a 1)), (2, .int (nI fi))]) RX0 (by decide) rfl (Nat.le_of_ble_eq_true rfl) rfl (fun p e s m below meth c A C hr hlk => ?_)
  have kp0 : keeps ws ws (fun q => (q = 1 ∨ q = 2) ∨ (87 ≤ q ∧ q < 92)) := keeps_rf
  refine x_aload_n C dX0_oneEgg_0 rfl 1 rfl rfl ?_
  obtain ⟨_, k1, n2, v4, v5, v6, bn3, rfl⟩ := hW 1 _ rfl
  refine x_get C (ci := 7) (k := 3) 1 k1 rfl in_X8 (by decide) w_42 rfl dX0_oneEgg_1 rfl ?_
  refine x_istore_n C (lv' := [(3, .int v5), (0, .ref (a 87)), (1, .ref (a 1)), (2, .int (nI fi))]) dX0_oneEgg_4 rfl (by decide) rfl rfl ?_
  refine x_aload_n C dX0_oneEgg_5 rfl 2 rfl rfl ?_
  refine x_vi C (As := []) (rest := []) (c_signE E l a ws hW) mf_X8_sign w_676 1 k1 rfl rfl rfl (Nat.le_of_ble_eq_true rfl) ⟨(Nat.le_of_ble_eq_true rfl), (Nat.le_of_ble_eq_true rfl)⟩ ⟨(Nat.le_of_ble_eq_true rfl), (Nat.le_of_ble_eq_true rfl)⟩ dX0_oneEgg_6 rfl (fun r8 w9 h7 => ?_)
  obtain ⟨hW11, x10⟩ := h7
  refine x_top x10 (x_ws hW11 ?_)
  refine x_sn C (As := [.int (sgW ws)]) (rest := []) (c_isDigitE E l a ws hW ((sgW ws))) mf_X11_isDigit n_677 rfl rfl (Nat.le_of_ble_eq_true rfl) ⟨(Nat.le_of_ble_eq_true rfl), (Nat.le_of_ble_eq_true rfl)⟩ ⟨(Nat.le_of_ble_eq_true rfl), (Nat.le_of_ble_eq_true rfl)⟩ dX0_oneEgg_9 rfl (fun r13 w14 h12 => ?_)
  obtain ⟨hW15, zb16, x17⟩ := h12
  refine x_ws hW15 ?_
  refine x_if_ne C (tgt := 21) dX0_oneEgg_12 (by decide) rfl (fun c18 => ?_) (fun c18 => ?_)
  · skip
    obtain ⟨dj19, dl20, dh21, de22⟩ := w_nat (a := 48) (b := 57) (by decide) (by decide) (x17 c18)
    refine x_iconst C (v := 0) dX0_oneEgg_21 (by decide) rfl ?_
    refine x_istore C (lv' := [(4, .int 0), (3, .int v5), (0, .ref (a 87)), (1, .ref (a 1)), (2, .int (nI fi))]) dX0_oneEgg_22 (by decide) rfl rfl ?_
    refine x_iconst C (v := 0) dX0_oneEgg_24 (by decide) rfl ?_
    refine x_istore C (lv' := [(5, .int 0), (4, .int 0), (3, .int v5), (0, .ref (a 87)), (1, .ref (a 1)), (2, .int (nI fi))]) dX0_oneEgg_25 (by decide) rfl rfl ?_
    refine x_iload C dX0_oneEgg_27 0 rfl rfl ?_
    refine x_iconst C (v := 2) dX0_oneEgg_29 (by decide) rfl ?_
    refine x_icmp_ge C (tgt := 74) dX0_oneEgg_30 (by decide) rfl (fun h => absurd h (by decide)) (fun _ => ?_)
    refine x_aload_n C dX0_oneEgg_33 rfl 4 rfl rfl ?_
    refine x_vi C (As := []) (rest := []) (c_signE E l a ws hW) mf_X8_sign w_676 1 k1 rfl rfl rfl (Nat.le_of_ble_eq_true rfl) ⟨(Nat.le_of_ble_eq_true rfl), (Nat.le_of_ble_eq_true rfl)⟩ ⟨(Nat.le_of_ble_eq_true rfl), (Nat.le_of_ble_eq_true rfl)⟩ dX0_oneEgg_34 rfl (fun r24 w25 h23 => ?_)
    obtain ⟨hW27, x26⟩ := h23
    refine x_top (v := nI dj19) (x26.trans de22) (x_ws hW27 ?_)
    refine x_sn C (As := [.int (nI dj19)]) (rest := []) (c_isDigitE E l a ws hW ((nI dj19))) mf_X11_isDigit n_677 rfl rfl (Nat.le_of_ble_eq_true rfl) ⟨(Nat.le_of_ble_eq_true rfl), (Nat.le_of_ble_eq_true rfl)⟩ ⟨(Nat.le_of_ble_eq_true rfl), (Nat.le_of_ble_eq_true rfl)⟩ dX0_oneEgg_37 rfl (fun r29 w30 h28 => ?_)
    obtain ⟨hW31, zb32, x33⟩ := h28
    refine x_ws hW31 ?_
    refine x_if_eq C (tgt := 74) dX0_oneEgg_40 (by decide) rfl (fun c34 => ?_) (fun c34 => ?_)
    · skip
      refine x_iload C dX0_oneEgg_74 1 rfl rfl ?_
      refine x_bipush C (v := 48) dX0_oneEgg_76 (by decide) rfl ?_
      refine x_icmp_lt C (tgt := 88) dX0_oneEgg_78 (by decide) rfl (fun _ => ?_) (fun h => absurd h (by decide))
      refine x_iload_n C dX0_oneEgg_88 rfl 5 rfl rfl ?_
      refine x_istore C (lv' := [(5, .int (nI fi)), (4, .int 0), (3, .int v5), (0, .ref (a 87)), (1, .ref (a 1)), (2, .int (nI fi))]) dX0_oneEgg_89 (by decide) rfl rfl ?_
      have loop91 : ∀ (fu91 : Nat) (k : Nat), True → 140 - k < fu91 → k ≤ 140 → X E p l e (xRm 2 0 0) s m ([.ref (a 87), .ref (a 1), .int (nI fi)] : List Value).toArray below meth c A 6 0 0 (MQ below (va_Qi (fun r w => WX (okX E a) w ∧ keeps ws w (fun q => (q = 1 ∨ q = 2) ∨ (87 ≤ q ∧ q < 92)) ∧ zb r) (xB E A) A) ([.ref (a 87), .ref (a 1), .int (nI fi)] : List Value).toArray s 0 0 A) ws 91 [(0, .ref (a 87)), (1, .ref (a 1)), (2, .int (nI fi)), (3, .int v5), (4, .int 0), (5, .int (nI k))] [] := by
        intro fu91
        induction fu91 with
        | zero => intro k _ q; omega
        | succ fu91 ih91 =>
          intro k _ me91 iv91_0
          refine x_iload C dX0_oneEgg_91 5 rfl rfl ?_
          refine x_aload_n C dX0_oneEgg_93 rfl 0 rfl rfl ?_
          obtain ⟨_, k35, n36, n38, bn37, bn39, rfl⟩ := hW 87 _ rfl
          refine x_get C (ci := 0) (k := 5) 87 k35 rfl in_X0 (by decide) w_300 rfl dX0_oneEgg_94 rfl ?_
          refine x_icmp_ge C (tgt := 126) dX0_oneEgg_97 (by decide) rfl (fun c40 => ?_) (fun c40 => ?_)
          · skip
            have nf41 := nI_le' (a := n38) (b := k) c40 (by omega) (by omega)
            refine x_aload_n C dX0_oneEgg_126 rfl 0 rfl rfl ?_
            refine x_get C (ci := 0) (k := 5) 87 k35 rfl in_X0 (by decide) w_300 rfl dX0_oneEgg_127 rfl ?_
            refine x_sipush C (v := 140) dX0_oneEgg_130 (by decide) rfl ?_
            refine x_icmp_ge C (tgt := 157) dX0_oneEgg_133 (by decide) rfl (fun c42 => ?_) (fun c42 => ?_)
            · skip
              have nf43 := nI_le' (a := 140) (b := n38) c42 (by omega) (by omega)
              refine x_iconst C (v := 1) dX0_oneEgg_157 (by decide) rfl ?_
              exact x_zret C hr hlk rfl dX0_oneEgg_158 ⟨hW, kp0, (Or.inr rfl)⟩
            · skip
              have nf44 := nI_nle' (a := 140) (b := n38) c42 (by omega) (by omega)
              refine x_aload_n C dX0_oneEgg_136 rfl 0 rfl rfl ?_
              refine x_get C (ci := 0) (k := 4) 87 k35 rfl in_X0 (by decide) w_299 rfl dX0_oneEgg_137 rfl ?_
              refine x_aload_n C dX0_oneEgg_140 rfl 0 rfl rfl ?_
              refine x_get C (ci := 0) (k := 5) 87 k35 rfl in_X0 (by decide) w_300 rfl dX0_oneEgg_141 rfl ?_
              refine x_iload C dX0_oneEgg_144 4 rfl rfl ?_
              obtain ⟨_, k45, g46, gb47, rfl⟩ := hW 91 _ rfl
              have gb48 := updn_le (i := n38) (v := 0) gb47 (by omega)
              obtain ⟨w49, hw50⟩ : ∃ w : va_W, w = List.set ws 91 (iA E (a 91) 140 (upd (fun j => nI (g46 j)) n38 (nI 0))) := ⟨_, rfl⟩
              refine x_iask C n38 (nI_clamp (by omega)) (nI_pos (by omega)) (by omega) 91 k45 hw50.symm dX0_oneEgg_146 rfl ?_
              have hW51 : WX (okX E a) w49 := by rw [hw50]; exact hW.set (k := 91) rfl ⟨_, gb48, iA_n (upd_nI g46 n38 0)⟩
              have k52 : w49[1]? = some (ob (a 1) 7 [.ref (a 2), .int (nI n2), .int v4, .int v5, .int v6]) := by rw [hw50]; exact set_ne k1 (by decide)
              have k53 : w49[87]? = some (ob (a 87) 0 [.int (nI n36), .ref (a 88), .ref (a 89), .ref (a 90), .ref (a 91), .int (nI n38)]) := by rw [hw50]; exact set_ne k35 (by decide)
              have k54 : w49[91]? = some (iA E (a 91) 140 (upd (fun j => nI (g46 j)) n38 (nI 0))) := by rw [hw50]; exact set_eq k45
              have kp55 := keeps_set kp0 hw50 (by first | exact rfl | decide | omega | (dsimp only; omega))
              have k56 : w49[91]? = some (iA E (a 91) 140 (fun j => nI ((updn g46 n38 0) j))) := by rw [← upd_nI]; exact k54
              refine x_aload_n C dX0_oneEgg_147 rfl 0 rfl rfl ?_
              refine x_dup C dX0_oneEgg_148 rfl rfl ?_
              refine x_get C (ci := 0) (k := 5) 87 k53 rfl in_X0 (by decide) w_300 rfl dX0_oneEgg_149 rfl ?_
              refine x_iconst C (v := 1) dX0_oneEgg_152 (by decide) rfl ?_
              refine x_iadd C (v := (nI (n38 + 1))) dX0_oneEgg_153 (nI_add n38 1) rfl ?_
              obtain ⟨w57, hw58⟩ : ∃ w : va_W, w = List.set w49 87 (ob (a 87) 0 [.int (nI n36), .ref (a 88), .ref (a 89), .ref (a 90), .ref (a 91), .int (nI (n38 + 1))]) := ⟨_, rfl⟩
              refine x_put C (ci := 0) (k := 5) (ty := .int) 87 k53 rfl in_X0 tyX0 tyX0_ok nmX0 (by decide) w_300 rfl rfl rfl rfl (Nat.le_of_ble_eq_true rfl) hw58.symm dX0_oneEgg_154 rfl ?_
              have hW59 : WX (okX E a) w57 := by rw [hw58]; exact hW51.set (k := 87) rfl ⟨n36, (n38 + 1), by omega, by omega, rfl⟩
              have k60 : w57[1]? = some (ob (a 1) 7 [.ref (a 2), .int (nI n2), .int v4, .int v5, .int v6]) := by rw [hw58]; exact set_ne k52 (by decide)
              have k61 : w57[87]? = some (ob (a 87) 0 [.int (nI n36), .ref (a 88), .ref (a 89), .ref (a 90), .ref (a 91), .int (nI (n38 + 1))]) := by rw [hw58]; exact set_eq k53
              have k62 : w57[91]? = some (iA E (a 91) 140 (fun j => nI ((updn g46 n38 0) j))) := by rw [hw58]; exact set_ne k56 (by decide)
              have kp63 := keeps_set kp55 hw58 (by first | exact rfl | decide | omega | (dsimp only; omega))
              refine x_iconst C (v := 1) dX0_oneEgg_157 (by decide) rfl ?_
              exact x_zret C hr hlk rfl dX0_oneEgg_158 ⟨hW59, kp63, (Or.inr rfl)⟩
          · skip
            have nf64 := nI_nle' (a := n38) (b := k) c40 (by omega) (by omega)
            refine x_aload_n C dX0_oneEgg_100 rfl 0 rfl rfl ?_
            refine x_get C (ci := 0) (k := 4) 87 k35 rfl in_X0 (by decide) w_299 rfl dX0_oneEgg_101 rfl ?_
            refine x_iload C dX0_oneEgg_104 5 rfl rfl ?_
            obtain ⟨_, k65, g66, gb67, rfl⟩ := hW 91 _ rfl
            refine x_ialk C (v := nI (g66 k)) k (nI_clamp (by omega)) (nI_pos (by omega)) (by omega) 91 k65 rfl dX0_oneEgg_106 rfl ?_
            have bx68 := gb67 k
            refine x_iload C dX0_oneEgg_107 4 rfl rfl ?_
            refine x_icmp_ne C (tgt := 120) dX0_oneEgg_109 (by decide) rfl (fun c69 => ?_) (fun c69 => ?_)
            · skip
              have nf70 : ¬ g66 k = 0 := fun q => c69 (congrArg nI q)
              refine x_iinc C (v := (nI (k + 1))) (lv' := [(5, .int (nI (k + 1))), (0, .ref (a 87)), (1, .ref (a 1)), (2, .int (nI fi)), (3, .int v5), (4, .int 0)]) dX0_oneEgg_120 5 rfl (nI_add k 1) (by decide) rfl rfl ?_
              refine x_goto C (tgt := 91) dX0_oneEgg_123 (by decide) ?_
              refine x_lv (lv1 := [(0, .ref (a 87)), (1, .ref (a 1)), (2, .int (nI fi)), (3, .int v5), (4, .int 0), (5, .int (nI (k + 1)))]) [1, 2, 3, 4, 5, 0] rfl ?_
              exact ih91 (k + 1) trivial (by omega) (by omega)
            · skip
              have nf71 : g66 k = 0 := (nI_eq (by omega) (by omega)).mp c69
              refine x_aload_n C dX0_oneEgg_112 rfl 1 rfl rfl ?_
              refine x_bipush C (v := 7) dX0_oneEgg_113 (by decide) rfl ?_
              refine x_iload_n C dX0_oneEgg_115 rfl 3 rfl rfl ?_
              refine x_vi C (As := [.int 7, .int v5]) (rest := []) (c_failsAt E l a ws hW (7 : Int32) v5) mf_X8_failsAt w_687 1 k1 rfl rfl rfl (Nat.le_of_ble_eq_true rfl) ⟨(Nat.le_of_ble_eq_true rfl), (Nat.le_of_ble_eq_true rfl)⟩ ⟨(Nat.le_of_ble_eq_true rfl), (Nat.le_of_ble_eq_true rfl)⟩ dX0_oneEgg_116 rfl (fun r73 w74 h72 => ?_)
              obtain ⟨hW75, kq76, zb77⟩ := h72
              have k78 : w74[87]? = some (ob (a 87) 0 [.int (nI n36), .ref (a 88), .ref (a 89), .ref (a 90), .ref (a 91), .int (nI n38)]) := keeps_at kq76 k35 (by first | decide | omega | (dsimp only; omega))
              have k79 : w74[91]? = some (iA E (a 91) 140 (fun j => nI (g66 j))) := keeps_at kq76 k65 (by first | decide | omega | (dsimp only; omega))
              have kp80 := keeps_tr kp0 kq76 (fun q hq => by first | omega | (dsimp only at *; omega))
              exact x_zret C hr hlk (zb_nar zb77) dX0_oneEgg_119 ⟨hW75, kp80, zb77⟩
      refine x_lv (lv1 := [(0, .ref (a 87)), (1, .ref (a 1)), (2, .int (nI fi)), (3, .int v5), (4, .int 0), (5, .int (nI fi))]) [3, 4, 5, 2, 1, 0] rfl ?_
      exact loop91 _ fi trivial (Nat.lt_succ_self _) (by omega)
    · skip
      refine x_bipush C (v := 10) dX0_oneEgg_43 (by decide) rfl ?_
      refine x_iload C dX0_oneEgg_45 1 rfl rfl ?_
      refine x_imul C (v := 0) dX0_oneEgg_47 (by decide) rfl ?_
      refine x_aload_n C dX0_oneEgg_48 rfl 4 rfl rfl ?_
      refine x_vi C (As := []) (rest := [.int 0]) (c_signE E l a ws hW) mf_X8_sign w_676 1 k1 rfl rfl rfl (Nat.le_of_ble_eq_true rfl) ⟨(Nat.le_of_ble_eq_true rfl), (Nat.le_of_ble_eq_true rfl)⟩ ⟨(Nat.le_of_ble_eq_true rfl), (Nat.le_of_ble_eq_true rfl)⟩ dX0_oneEgg_49 rfl (fun r82 w83 h81 => ?_)
      obtain ⟨hW85, x84⟩ := h81
      refine x_top (v := nI dj19) (x84.trans de22) (x_ws hW85 ?_)
      refine x_iadd C (v := (nI (0 + dj19))) dX0_oneEgg_52 (nI_add 0 dj19) rfl ?_
      refine x_bipush C (v := 48) dX0_oneEgg_53 (by decide) rfl ?_
      refine x_isub C (v := (nI ((0 + dj19) - 48))) dX0_oneEgg_55 (pk_sub (a := (0 + dj19)) (b := 48) (by omega)) rfl ?_
      refine x_istore C (lv' := [(4, .int (nI ((0 + dj19) - 48))), (5, .int 0), (3, .int v5), (0, .ref (a 87)), (1, .ref (a 1)), (2, .int (nI fi))]) dX0_oneEgg_56 (by decide) rfl rfl ?_
      refine x_aload_n C dX0_oneEgg_58 rfl 4 rfl rfl ?_
      refine x_dup C dX0_oneEgg_59 rfl rfl ?_
      refine x_get C (ci := 7) (k := 3) 1 k1 rfl in_X8 (by decide) w_42 rfl dX0_oneEgg_60 rfl ?_
      refine x_iconst C (v := 1) dX0_oneEgg_63 (by decide) rfl ?_
      refine x_iadd C (v := (v5 + (1 : Int32))) dX0_oneEgg_64 rfl rfl ?_
      refine x_any (fun v86 => ?_)
      obtain ⟨w87, hw88⟩ : ∃ w : va_W, w = List.set ws 1 (ob (a 1) 7 [.ref (a 2), .int (nI n2), .int v4, .int v86, .int v6]) := ⟨_, rfl⟩
      refine x_put C (ci := 7) (k := 3) (ty := .int) 1 k1 rfl in_X8 tyX8 tyX8_ok nmX8 (by decide) w_42 rfl rfl rfl rfl (Nat.le_of_ble_eq_true rfl) hw88.symm dX0_oneEgg_65 rfl ?_
      have hW89 : WX (okX E a) w87 := by rw [hw88]; exact hW.set (k := 1) rfl ⟨n2, v4, v86, v6, by omega, rfl⟩
      have k90 : w87[1]? = some (ob (a 1) 7 [.ref (a 2), .int (nI n2), .int v4, .int v86, .int v6]) := by rw [hw88]; exact set_eq k1
      have kp91 := keeps_set kp0 hw88 (by first | exact rfl | decide | omega | (dsimp only; omega))
      refine x_iinc C (v := 1) (lv' := [(5, .int 1), (4, .int (nI ((0 + dj19) - 48))), (3, .int v5), (0, .ref (a 87)), (1, .ref (a 1)), (2, .int (nI fi))]) dX0_oneEgg_68 1 rfl (by decide) (by decide) rfl rfl ?_
      refine x_goto C (tgt := 27) dX0_oneEgg_71 (by decide) ?_
      refine x_iload C dX0_oneEgg_27 0 rfl rfl ?_
      refine x_iconst C (v := 2) dX0_oneEgg_29 (by decide) rfl ?_
      refine x_icmp_ge C (tgt := 74) dX0_oneEgg_30 (by decide) rfl (fun h => absurd h (by decide)) (fun _ => ?_)
      refine x_aload_n C dX0_oneEgg_33 rfl 4 rfl rfl ?_
      refine x_vi C (As := []) (rest := []) (c_signE E l a w87 hW89) mf_X8_sign w_676 1 k90 rfl rfl rfl (Nat.le_of_ble_eq_true rfl) ⟨(Nat.le_of_ble_eq_true rfl), (Nat.le_of_ble_eq_true rfl)⟩ ⟨(Nat.le_of_ble_eq_true rfl), (Nat.le_of_ble_eq_true rfl)⟩ dX0_oneEgg_34 rfl (fun r93 w94 h92 => ?_)
      obtain ⟨hW96, x95⟩ := h92
      refine x_top x95 (x_ws hW96 ?_)
      refine x_sn C (As := [.int (sgW w87)]) (rest := []) (c_isDigitE E l a w87 hW89 ((sgW w87))) mf_X11_isDigit n_677 rfl rfl (Nat.le_of_ble_eq_true rfl) ⟨(Nat.le_of_ble_eq_true rfl), (Nat.le_of_ble_eq_true rfl)⟩ ⟨(Nat.le_of_ble_eq_true rfl), (Nat.le_of_ble_eq_true rfl)⟩ dX0_oneEgg_37 rfl (fun r98 w99 h97 => ?_)
      obtain ⟨hW100, zb101, x102⟩ := h97
      refine x_ws hW100 ?_
      refine x_if_eq C (tgt := 74) dX0_oneEgg_40 (by decide) rfl (fun c103 => ?_) (fun c103 => ?_)
      · skip
        refine x_iload C dX0_oneEgg_74 1 rfl rfl ?_
        refine x_bipush C (v := 48) dX0_oneEgg_76 (by decide) rfl ?_
        refine x_icmp_lt C (tgt := 88) dX0_oneEgg_78 (by decide) rfl (fun c104 => ?_) (fun c104 => ?_)
        · skip
          have nf105 := nI_lt' (a := ((0 + dj19) - 48)) (b := 48) c104 (by omega) (by omega)
          refine x_iload_n C dX0_oneEgg_88 rfl 5 rfl rfl ?_
          refine x_istore C (lv' := [(5, .int (nI fi)), (4, .int (nI ((0 + dj19) - 48))), (3, .int v5), (0, .ref (a 87)), (1, .ref (a 1)), (2, .int (nI fi))]) dX0_oneEgg_89 (by decide) rfl rfl ?_
          have loop91 : ∀ (fu91 : Nat) (k : Nat), True → 140 - k < fu91 → k ≤ 140 → X E p l e (xRm 2 0 0) s m ([.ref (a 87), .ref (a 1), .int (nI fi)] : List Value).toArray below meth c A 6 0 0 (MQ below (va_Qi (fun r w => WX (okX E a) w ∧ keeps ws w (fun q => (q = 1 ∨ q = 2) ∨ (87 ≤ q ∧ q < 92)) ∧ zb r) (xB E A) A) ([.ref (a 87), .ref (a 1), .int (nI fi)] : List Value).toArray s 0 0 A) w87 91 [(0, .ref (a 87)), (1, .ref (a 1)), (2, .int (nI fi)), (3, .int v5), (4, .int (nI ((0 + dj19) - 48))), (5, .int (nI k))] [] := by
            intro fu91
            induction fu91 with
            | zero => intro k _ q; omega
            | succ fu91 ih91 =>
              intro k _ me91 iv91_0
              refine x_iload C dX0_oneEgg_91 5 rfl rfl ?_
              refine x_aload_n C dX0_oneEgg_93 rfl 0 rfl rfl ?_
              obtain ⟨_, k106, n107, n109, bn108, bn110, rfl⟩ := hW89 87 _ rfl
              refine x_get C (ci := 0) (k := 5) 87 k106 rfl in_X0 (by decide) w_300 rfl dX0_oneEgg_94 rfl ?_
              refine x_icmp_ge C (tgt := 126) dX0_oneEgg_97 (by decide) rfl (fun c111 => ?_) (fun c111 => ?_)
              · skip
                have nf112 := nI_le' (a := n109) (b := k) c111 (by omega) (by omega)
                refine x_aload_n C dX0_oneEgg_126 rfl 0 rfl rfl ?_
                refine x_get C (ci := 0) (k := 5) 87 k106 rfl in_X0 (by decide) w_300 rfl dX0_oneEgg_127 rfl ?_
                refine x_sipush C (v := 140) dX0_oneEgg_130 (by decide) rfl ?_
                refine x_icmp_ge C (tgt := 157) dX0_oneEgg_133 (by decide) rfl (fun c113 => ?_) (fun c113 => ?_)
                · skip
                  have nf114 := nI_le' (a := 140) (b := n109) c113 (by omega) (by omega)
                  refine x_iconst C (v := 1) dX0_oneEgg_157 (by decide) rfl ?_
                  exact x_zret C hr hlk rfl dX0_oneEgg_158 ⟨hW89, kp91, (Or.inr rfl)⟩
                · skip
                  have nf115 := nI_nle' (a := 140) (b := n109) c113 (by omega) (by omega)
                  refine x_aload_n C dX0_oneEgg_136 rfl 0 rfl rfl ?_
                  refine x_get C (ci := 0) (k := 4) 87 k106 rfl in_X0 (by decide) w_299 rfl dX0_oneEgg_137 rfl ?_
                  refine x_aload_n C dX0_oneEgg_140 rfl 0 rfl rfl ?_
                  refine x_get C (ci := 0) (k := 5) 87 k106 rfl in_X0 (by decide) w_300 rfl dX0_oneEgg_141 rfl ?_
                  refine x_iload C dX0_oneEgg_144 4 rfl rfl ?_
                  obtain ⟨_, k116, g117, gb118, rfl⟩ := hW89 91 _ rfl
                  have gb119 := updn_le (i := n109) (v := ((0 + dj19) - 48)) gb118 (by omega)
                  obtain ⟨w120, hw121⟩ : ∃ w : va_W, w = List.set w87 91 (iA E (a 91) 140 (upd (fun j => nI (g117 j)) n109 (nI ((0 + dj19) - 48)))) := ⟨_, rfl⟩
                  refine x_iask C n109 (nI_clamp (by omega)) (nI_pos (by omega)) (by omega) 91 k116 hw121.symm dX0_oneEgg_146 rfl ?_
                  have hW122 : WX (okX E a) w120 := by rw [hw121]; exact hW89.set (k := 91) rfl ⟨_, gb119, iA_n (upd_nI g117 n109 ((0 + dj19) - 48))⟩
                  have k123 : w120[1]? = some (ob (a 1) 7 [.ref (a 2), .int (nI n2), .int v4, .int v86, .int v6]) := by rw [hw121]; exact set_ne k90 (by decide)
                  have k124 : w120[87]? = some (ob (a 87) 0 [.int (nI n107), .ref (a 88), .ref (a 89), .ref (a 90), .ref (a 91), .int (nI n109)]) := by rw [hw121]; exact set_ne k106 (by decide)
                  have k125 : w120[91]? = some (iA E (a 91) 140 (upd (fun j => nI (g117 j)) n109 (nI ((0 + dj19) - 48)))) := by rw [hw121]; exact set_eq k116
                  have kp126 := keeps_set kp91 hw121 (by first | exact rfl | decide | omega | (dsimp only; omega))
                  have k127 : w120[91]? = some (iA E (a 91) 140 (fun j => nI ((updn g117 n109 ((0 + dj19) - 48)) j))) := by rw [← upd_nI]; exact k125
                  refine x_aload_n C dX0_oneEgg_147 rfl 0 rfl rfl ?_
                  refine x_dup C dX0_oneEgg_148 rfl rfl ?_
                  refine x_get C (ci := 0) (k := 5) 87 k124 rfl in_X0 (by decide) w_300 rfl dX0_oneEgg_149 rfl ?_
                  refine x_iconst C (v := 1) dX0_oneEgg_152 (by decide) rfl ?_
                  refine x_iadd C (v := (nI (n109 + 1))) dX0_oneEgg_153 (nI_add n109 1) rfl ?_
                  obtain ⟨w128, hw129⟩ : ∃ w : va_W, w = List.set w120 87 (ob (a 87) 0 [.int (nI n107), .ref (a 88), .ref (a 89), .ref (a 90), .ref (a 91), .int (nI (n109 + 1))]) := ⟨_, rfl⟩
                  refine x_put C (ci := 0) (k := 5) (ty := .int) 87 k124 rfl in_X0 tyX0 tyX0_ok nmX0 (by decide) w_300 rfl rfl rfl rfl (Nat.le_of_ble_eq_true rfl) hw129.symm dX0_oneEgg_154 rfl ?_
                  have hW130 : WX (okX E a) w128 := by rw [hw129]; exact hW122.set (k := 87) rfl ⟨n107, (n109 + 1), by omega, by omega, rfl⟩
                  have k131 : w128[1]? = some (ob (a 1) 7 [.ref (a 2), .int (nI n2), .int v4, .int v86, .int v6]) := by rw [hw129]; exact set_ne k123 (by decide)
                  have k132 : w128[87]? = some (ob (a 87) 0 [.int (nI n107), .ref (a 88), .ref (a 89), .ref (a 90), .ref (a 91), .int (nI (n109 + 1))]) := by rw [hw129]; exact set_eq k124
                  have k133 : w128[91]? = some (iA E (a 91) 140 (fun j => nI ((updn g117 n109 ((0 + dj19) - 48)) j))) := by rw [hw129]; exact set_ne k127 (by decide)
                  have kp134 := keeps_set kp126 hw129 (by first | exact rfl | decide | omega | (dsimp only; omega))
                  refine x_iconst C (v := 1) dX0_oneEgg_157 (by decide) rfl ?_
                  exact x_zret C hr hlk rfl dX0_oneEgg_158 ⟨hW130, kp134, (Or.inr rfl)⟩
              · skip
                have nf135 := nI_nle' (a := n109) (b := k) c111 (by omega) (by omega)
                refine x_aload_n C dX0_oneEgg_100 rfl 0 rfl rfl ?_
                refine x_get C (ci := 0) (k := 4) 87 k106 rfl in_X0 (by decide) w_299 rfl dX0_oneEgg_101 rfl ?_
                refine x_iload C dX0_oneEgg_104 5 rfl rfl ?_
                obtain ⟨_, k136, g137, gb138, rfl⟩ := hW89 91 _ rfl
                refine x_ialk C (v := nI (g137 k)) k (nI_clamp (by omega)) (nI_pos (by omega)) (by omega) 91 k136 rfl dX0_oneEgg_106 rfl ?_
                have bx139 := gb138 k
                refine x_iload C dX0_oneEgg_107 4 rfl rfl ?_
                refine x_icmp_ne C (tgt := 120) dX0_oneEgg_109 (by decide) rfl (fun c140 => ?_) (fun c140 => ?_)
                · skip
                  have nf141 : ¬ g137 k = (0 + dj19) - 48 := fun q => c140 (congrArg nI q)
                  refine x_iinc C (v := (nI (k + 1))) (lv' := [(5, .int (nI (k + 1))), (0, .ref (a 87)), (1, .ref (a 1)), (2, .int (nI fi)), (3, .int v5), (4, .int (nI ((0 + dj19) - 48)))]) dX0_oneEgg_120 5 rfl (nI_add k 1) (by decide) rfl rfl ?_
                  refine x_goto C (tgt := 91) dX0_oneEgg_123 (by decide) ?_
                  refine x_lv (lv1 := [(0, .ref (a 87)), (1, .ref (a 1)), (2, .int (nI fi)), (3, .int v5), (4, .int (nI ((0 + dj19) - 48))), (5, .int (nI (k + 1)))]) [1, 2, 3, 4, 5, 0] rfl ?_
                  exact ih91 (k + 1) trivial (by omega) (by omega)
                · skip
                  have nf142 : g137 k = (0 + dj19) - 48 := (nI_eq (by omega) (by omega)).mp c140
                  refine x_aload_n C dX0_oneEgg_112 rfl 1 rfl rfl ?_
                  refine x_bipush C (v := 7) dX0_oneEgg_113 (by decide) rfl ?_
                  refine x_iload_n C dX0_oneEgg_115 rfl 3 rfl rfl ?_
                  refine x_vi C (As := [.int 7, .int v5]) (rest := []) (c_failsAt E l a w87 hW89 (7 : Int32) v5) mf_X8_failsAt w_687 1 k90 rfl rfl rfl (Nat.le_of_ble_eq_true rfl) ⟨(Nat.le_of_ble_eq_true rfl), (Nat.le_of_ble_eq_true rfl)⟩ ⟨(Nat.le_of_ble_eq_true rfl), (Nat.le_of_ble_eq_true rfl)⟩ dX0_oneEgg_116 rfl (fun r144 w145 h143 => ?_)
                  obtain ⟨hW146, kq147, zb148⟩ := h143
                  have k149 : w145[87]? = some (ob (a 87) 0 [.int (nI n107), .ref (a 88), .ref (a 89), .ref (a 90), .ref (a 91), .int (nI n109)]) := keeps_at kq147 k106 (by first | decide | omega | (dsimp only; omega))
                  have k150 : w145[91]? = some (iA E (a 91) 140 (fun j => nI (g137 j))) := keeps_at kq147 k136 (by first | decide | omega | (dsimp only; omega))
                  have kp151 := keeps_tr kp91 kq147 (fun q hq => by first | omega | (dsimp only at *; omega))
                  exact x_zret C hr hlk (zb_nar zb148) dX0_oneEgg_119 ⟨hW146, kp151, zb148⟩
          refine x_lv (lv1 := [(0, .ref (a 87)), (1, .ref (a 1)), (2, .int (nI fi)), (3, .int v5), (4, .int (nI ((0 + dj19) - 48))), (5, .int (nI fi))]) [3, 4, 5, 2, 1, 0] rfl ?_
          exact loop91 _ fi trivial (Nat.lt_succ_self _) (by omega)
        · skip
          have nf152 := nI_nlt' (a := ((0 + dj19) - 48)) (b := 48) c104 (by omega) (by omega)
          refine x_aload_n C dX0_oneEgg_81 rfl 4 rfl rfl ?_
          refine x_iconst C (v := 3) dX0_oneEgg_82 (by decide) rfl ?_
          refine x_iload_n C dX0_oneEgg_83 rfl 2 rfl rfl ?_
          refine x_vi C (As := [.int 3, .int v5]) (rest := []) (c_failsAt E l a w87 hW89 (3 : Int32) v5) mf_X8_failsAt w_687 1 k90 rfl rfl rfl (Nat.le_of_ble_eq_true rfl) ⟨(Nat.le_of_ble_eq_true rfl), (Nat.le_of_ble_eq_true rfl)⟩ ⟨(Nat.le_of_ble_eq_true rfl), (Nat.le_of_ble_eq_true rfl)⟩ dX0_oneEgg_84 rfl (fun r154 w155 h153 => ?_)
          obtain ⟨hW156, kq157, zb158⟩ := h153
          have kp159 := keeps_tr kp91 kq157 (fun q hq => by first | omega | (dsimp only at *; omega))
          exact x_zret C hr hlk (zb_nar zb158) dX0_oneEgg_87 ⟨hW156, kp159, zb158⟩
      · skip
        obtain ⟨dj160, dl161, dh162, de163⟩ := w_nat (a := 48) (b := 57) (by decide) (by decide) (x102 c103)
        refine x_bipush C (v := 10) dX0_oneEgg_43 (by decide) rfl ?_
        refine x_iload C dX0_oneEgg_45 1 rfl rfl ?_
        refine x_imul C (v := (nI (10 * ((0 + dj19) - 48)))) dX0_oneEgg_47 (pk_mul 10 ((0 + dj19) - 48)) rfl ?_
        refine x_aload_n C dX0_oneEgg_48 rfl 4 rfl rfl ?_
        refine x_vi C (As := []) (rest := [.int (nI (10 * ((0 + dj19) - 48)))]) (c_signE E l a w87 hW89) mf_X8_sign w_676 1 k90 rfl rfl rfl (Nat.le_of_ble_eq_true rfl) ⟨(Nat.le_of_ble_eq_true rfl), (Nat.le_of_ble_eq_true rfl)⟩ ⟨(Nat.le_of_ble_eq_true rfl), (Nat.le_of_ble_eq_true rfl)⟩ dX0_oneEgg_49 rfl (fun r165 w166 h164 => ?_)
        obtain ⟨hW168, x167⟩ := h164
        refine x_top (v := nI dj160) (x167.trans de163) (x_ws hW168 ?_)
        refine x_iadd C (v := (nI ((10 * ((0 + dj19) - 48)) + dj160))) dX0_oneEgg_52 (nI_add (10 * ((0 + dj19) - 48)) dj160) rfl ?_
        refine x_bipush C (v := 48) dX0_oneEgg_53 (by decide) rfl ?_
        refine x_isub C (v := (nI (((10 * ((0 + dj19) - 48)) + dj160) - 48))) dX0_oneEgg_55 (pk_sub (a := ((10 * ((0 + dj19) - 48)) + dj160)) (b := 48) (by omega)) rfl ?_
        refine x_istore C (lv' := [(4, .int (nI (((10 * ((0 + dj19) - 48)) + dj160) - 48))), (5, .int 1), (3, .int v5), (0, .ref (a 87)), (1, .ref (a 1)), (2, .int (nI fi))]) dX0_oneEgg_56 (by decide) rfl rfl ?_
        refine x_aload_n C dX0_oneEgg_58 rfl 4 rfl rfl ?_
        refine x_dup C dX0_oneEgg_59 rfl rfl ?_
        refine x_get C (ci := 7) (k := 3) 1 k90 rfl in_X8 (by decide) w_42 rfl dX0_oneEgg_60 rfl ?_
        refine x_iconst C (v := 1) dX0_oneEgg_63 (by decide) rfl ?_
        refine x_iadd C (v := (v86 + (1 : Int32))) dX0_oneEgg_64 rfl rfl ?_
        refine x_any (fun v169 => ?_)
        obtain ⟨w170, hw171⟩ : ∃ w : va_W, w = List.set w87 1 (ob (a 1) 7 [.ref (a 2), .int (nI n2), .int v4, .int v169, .int v6]) := ⟨_, rfl⟩
        refine x_put C (ci := 7) (k := 3) (ty := .int) 1 k90 rfl in_X8 tyX8 tyX8_ok nmX8 (by decide) w_42 rfl rfl rfl rfl (Nat.le_of_ble_eq_true rfl) hw171.symm dX0_oneEgg_65 rfl ?_
        have hW172 : WX (okX E a) w170 := by rw [hw171]; exact hW89.set (k := 1) rfl ⟨n2, v4, v169, v6, by omega, rfl⟩
        have k173 : w170[1]? = some (ob (a 1) 7 [.ref (a 2), .int (nI n2), .int v4, .int v169, .int v6]) := by rw [hw171]; exact set_eq k90
        have kp174 := keeps_set kp91 hw171 (by first | exact rfl | decide | omega | (dsimp only; omega))
        refine x_iinc C (v := 2) (lv' := [(5, .int 2), (4, .int (nI (((10 * ((0 + dj19) - 48)) + dj160) - 48))), (3, .int v5), (0, .ref (a 87)), (1, .ref (a 1)), (2, .int (nI fi))]) dX0_oneEgg_68 1 rfl (by decide) (by decide) rfl rfl ?_
        refine x_goto C (tgt := 27) dX0_oneEgg_71 (by decide) ?_
        refine x_iload C dX0_oneEgg_27 0 rfl rfl ?_
        refine x_iconst C (v := 2) dX0_oneEgg_29 (by decide) rfl ?_
        refine x_icmp_ge C (tgt := 74) dX0_oneEgg_30 (by decide) rfl (fun _ => ?_) (fun h => absurd h (by decide))
        refine x_iload C dX0_oneEgg_74 1 rfl rfl ?_
        refine x_bipush C (v := 48) dX0_oneEgg_76 (by decide) rfl ?_
        refine x_icmp_lt C (tgt := 88) dX0_oneEgg_78 (by decide) rfl (fun c175 => ?_) (fun c175 => ?_)
        · skip
          have nf176 := nI_lt' (a := (((10 * ((0 + dj19) - 48)) + dj160) - 48)) (b := 48) c175 (by omega) (by omega)
          refine x_iload_n C dX0_oneEgg_88 rfl 5 rfl rfl ?_
          refine x_istore C (lv' := [(5, .int (nI fi)), (4, .int (nI (((10 * ((0 + dj19) - 48)) + dj160) - 48))), (3, .int v5), (0, .ref (a 87)), (1, .ref (a 1)), (2, .int (nI fi))]) dX0_oneEgg_89 (by decide) rfl rfl ?_
          have loop91 : ∀ (fu91 : Nat) (k : Nat), True → 140 - k < fu91 → k ≤ 140 → X E p l e (xRm 2 0 0) s m ([.ref (a 87), .ref (a 1), .int (nI fi)] : List Value).toArray below meth c A 6 0 0 (MQ below (va_Qi (fun r w => WX (okX E a) w ∧ keeps ws w (fun q => (q = 1 ∨ q = 2) ∨ (87 ≤ q ∧ q < 92)) ∧ zb r) (xB E A) A) ([.ref (a 87), .ref (a 1), .int (nI fi)] : List Value).toArray s 0 0 A) w170 91 [(0, .ref (a 87)), (1, .ref (a 1)), (2, .int (nI fi)), (3, .int v5), (4, .int (nI (((10 * ((0 + dj19) - 48)) + dj160) - 48))), (5, .int (nI k))] [] := by
            intro fu91
            induction fu91 with
            | zero => intro k _ q; omega
            | succ fu91 ih91 =>
              intro k _ me91 iv91_0
              refine x_iload C dX0_oneEgg_91 5 rfl rfl ?_
              refine x_aload_n C dX0_oneEgg_93 rfl 0 rfl rfl ?_
              obtain ⟨_, k177, n178, n180, bn179, bn181, rfl⟩ := hW172 87 _ rfl
              refine x_get C (ci := 0) (k := 5) 87 k177 rfl in_X0 (by decide) w_300 rfl dX0_oneEgg_94 rfl ?_
              refine x_icmp_ge C (tgt := 126) dX0_oneEgg_97 (by decide) rfl (fun c182 => ?_) (fun c182 => ?_)
              · skip
                have nf183 := nI_le' (a := n180) (b := k) c182 (by omega) (by omega)
                refine x_aload_n C dX0_oneEgg_126 rfl 0 rfl rfl ?_
                refine x_get C (ci := 0) (k := 5) 87 k177 rfl in_X0 (by decide) w_300 rfl dX0_oneEgg_127 rfl ?_
                refine x_sipush C (v := 140) dX0_oneEgg_130 (by decide) rfl ?_
                refine x_icmp_ge C (tgt := 157) dX0_oneEgg_133 (by decide) rfl (fun c184 => ?_) (fun c184 => ?_)
                · skip
                  have nf185 := nI_le' (a := 140) (b := n180) c184 (by omega) (by omega)
                  refine x_iconst C (v := 1) dX0_oneEgg_157 (by decide) rfl ?_
                  exact x_zret C hr hlk rfl dX0_oneEgg_158 ⟨hW172, kp174, (Or.inr rfl)⟩
                · skip
                  have nf186 := nI_nle' (a := 140) (b := n180) c184 (by omega) (by omega)
                  refine x_aload_n C dX0_oneEgg_136 rfl 0 rfl rfl ?_
                  refine x_get C (ci := 0) (k := 4) 87 k177 rfl in_X0 (by decide) w_299 rfl dX0_oneEgg_137 rfl ?_
                  refine x_aload_n C dX0_oneEgg_140 rfl 0 rfl rfl ?_
                  refine x_get C (ci := 0) (k := 5) 87 k177 rfl in_X0 (by decide) w_300 rfl dX0_oneEgg_141 rfl ?_
                  refine x_iload C dX0_oneEgg_144 4 rfl rfl ?_
                  obtain ⟨_, k187, g188, gb189, rfl⟩ := hW172 91 _ rfl
                  have gb190 := updn_le (i := n180) (v := (((10 * ((0 + dj19) - 48)) + dj160) - 48)) gb189 (by omega)
                  obtain ⟨w191, hw192⟩ : ∃ w : va_W, w = List.set w170 91 (iA E (a 91) 140 (upd (fun j => nI (g188 j)) n180 (nI (((10 * ((0 + dj19) - 48)) + dj160) - 48)))) := ⟨_, rfl⟩
                  refine x_iask C n180 (nI_clamp (by omega)) (nI_pos (by omega)) (by omega) 91 k187 hw192.symm dX0_oneEgg_146 rfl ?_
                  have hW193 : WX (okX E a) w191 := by rw [hw192]; exact hW172.set (k := 91) rfl ⟨_, gb190, iA_n (upd_nI g188 n180 (((10 * ((0 + dj19) - 48)) + dj160) - 48))⟩
                  have k194 : w191[1]? = some (ob (a 1) 7 [.ref (a 2), .int (nI n2), .int v4, .int v169, .int v6]) := by rw [hw192]; exact set_ne k173 (by decide)
                  have k195 : w191[87]? = some (ob (a 87) 0 [.int (nI n178), .ref (a 88), .ref (a 89), .ref (a 90), .ref (a 91), .int (nI n180)]) := by rw [hw192]; exact set_ne k177 (by decide)
                  have k196 : w191[91]? = some (iA E (a 91) 140 (upd (fun j => nI (g188 j)) n180 (nI (((10 * ((0 + dj19) - 48)) + dj160) - 48)))) := by rw [hw192]; exact set_eq k187
                  have kp197 := keeps_set kp174 hw192 (by first | exact rfl | decide | omega | (dsimp only; omega))
                  have k198 : w191[91]? = some (iA E (a 91) 140 (fun j => nI ((updn g188 n180 (((10 * ((0 + dj19) - 48)) + dj160) - 48)) j))) := by rw [← upd_nI]; exact k196
                  refine x_aload_n C dX0_oneEgg_147 rfl 0 rfl rfl ?_
                  refine x_dup C dX0_oneEgg_148 rfl rfl ?_
                  refine x_get C (ci := 0) (k := 5) 87 k195 rfl in_X0 (by decide) w_300 rfl dX0_oneEgg_149 rfl ?_
                  refine x_iconst C (v := 1) dX0_oneEgg_152 (by decide) rfl ?_
                  refine x_iadd C (v := (nI (n180 + 1))) dX0_oneEgg_153 (nI_add n180 1) rfl ?_
                  obtain ⟨w199, hw200⟩ : ∃ w : va_W, w = List.set w191 87 (ob (a 87) 0 [.int (nI n178), .ref (a 88), .ref (a 89), .ref (a 90), .ref (a 91), .int (nI (n180 + 1))]) := ⟨_, rfl⟩
                  refine x_put C (ci := 0) (k := 5) (ty := .int) 87 k195 rfl in_X0 tyX0 tyX0_ok nmX0 (by decide) w_300 rfl rfl rfl rfl (Nat.le_of_ble_eq_true rfl) hw200.symm dX0_oneEgg_154 rfl ?_
                  have hW201 : WX (okX E a) w199 := by rw [hw200]; exact hW193.set (k := 87) rfl ⟨n178, (n180 + 1), by omega, by omega, rfl⟩
                  have k202 : w199[1]? = some (ob (a 1) 7 [.ref (a 2), .int (nI n2), .int v4, .int v169, .int v6]) := by rw [hw200]; exact set_ne k194 (by decide)
                  have k203 : w199[87]? = some (ob (a 87) 0 [.int (nI n178), .ref (a 88), .ref (a 89), .ref (a 90), .ref (a 91), .int (nI (n180 + 1))]) := by rw [hw200]; exact set_eq k195
                  have k204 : w199[91]? = some (iA E (a 91) 140 (fun j => nI ((updn g188 n180 (((10 * ((0 + dj19) - 48)) + dj160) - 48)) j))) := by rw [hw200]; exact set_ne k198 (by decide)
                  have kp205 := keeps_set kp197 hw200 (by first | exact rfl | decide | omega | (dsimp only; omega))
                  refine x_iconst C (v := 1) dX0_oneEgg_157 (by decide) rfl ?_
                  exact x_zret C hr hlk rfl dX0_oneEgg_158 ⟨hW201, kp205, (Or.inr rfl)⟩
              · skip
                have nf206 := nI_nle' (a := n180) (b := k) c182 (by omega) (by omega)
                refine x_aload_n C dX0_oneEgg_100 rfl 0 rfl rfl ?_
                refine x_get C (ci := 0) (k := 4) 87 k177 rfl in_X0 (by decide) w_299 rfl dX0_oneEgg_101 rfl ?_
                refine x_iload C dX0_oneEgg_104 5 rfl rfl ?_
                obtain ⟨_, k207, g208, gb209, rfl⟩ := hW172 91 _ rfl
                refine x_ialk C (v := nI (g208 k)) k (nI_clamp (by omega)) (nI_pos (by omega)) (by omega) 91 k207 rfl dX0_oneEgg_106 rfl ?_
                have bx210 := gb209 k
                refine x_iload C dX0_oneEgg_107 4 rfl rfl ?_
                refine x_icmp_ne C (tgt := 120) dX0_oneEgg_109 (by decide) rfl (fun c211 => ?_) (fun c211 => ?_)
                · skip
                  have nf212 : ¬ g208 k = ((10 * ((0 + dj19) - 48)) + dj160) - 48 := fun q => c211 (congrArg nI q)
                  refine x_iinc C (v := (nI (k + 1))) (lv' := [(5, .int (nI (k + 1))), (0, .ref (a 87)), (1, .ref (a 1)), (2, .int (nI fi)), (3, .int v5), (4, .int (nI (((10 * ((0 + dj19) - 48)) + dj160) - 48)))]) dX0_oneEgg_120 5 rfl (nI_add k 1) (by decide) rfl rfl ?_
                  refine x_goto C (tgt := 91) dX0_oneEgg_123 (by decide) ?_
                  refine x_lv (lv1 := [(0, .ref (a 87)), (1, .ref (a 1)), (2, .int (nI fi)), (3, .int v5), (4, .int (nI (((10 * ((0 + dj19) - 48)) + dj160) - 48))), (5, .int (nI (k + 1)))]) [1, 2, 3, 4, 5, 0] rfl ?_
                  exact ih91 (k + 1) trivial (by omega) (by omega)
                · skip
                  have nf213 : g208 k = ((10 * ((0 + dj19) - 48)) + dj160) - 48 := (nI_eq (by omega) (by omega)).mp c211
                  refine x_aload_n C dX0_oneEgg_112 rfl 1 rfl rfl ?_
                  refine x_bipush C (v := 7) dX0_oneEgg_113 (by decide) rfl ?_
                  refine x_iload_n C dX0_oneEgg_115 rfl 3 rfl rfl ?_
                  refine x_vi C (As := [.int 7, .int v5]) (rest := []) (c_failsAt E l a w170 hW172 (7 : Int32) v5) mf_X8_failsAt w_687 1 k173 rfl rfl rfl (Nat.le_of_ble_eq_true rfl) ⟨(Nat.le_of_ble_eq_true rfl), (Nat.le_of_ble_eq_true rfl)⟩ ⟨(Nat.le_of_ble_eq_true rfl), (Nat.le_of_ble_eq_true rfl)⟩ dX0_oneEgg_116 rfl (fun r215 w216 h214 => ?_)
                  obtain ⟨hW217, kq218, zb219⟩ := h214
                  have k220 : w216[87]? = some (ob (a 87) 0 [.int (nI n178), .ref (a 88), .ref (a 89), .ref (a 90), .ref (a 91), .int (nI n180)]) := keeps_at kq218 k177 (by first | decide | omega | (dsimp only; omega))
                  have k221 : w216[91]? = some (iA E (a 91) 140 (fun j => nI (g208 j))) := keeps_at kq218 k207 (by first | decide | omega | (dsimp only; omega))
                  have kp222 := keeps_tr kp174 kq218 (fun q hq => by first | omega | (dsimp only at *; omega))
                  exact x_zret C hr hlk (zb_nar zb219) dX0_oneEgg_119 ⟨hW217, kp222, zb219⟩
          refine x_lv (lv1 := [(0, .ref (a 87)), (1, .ref (a 1)), (2, .int (nI fi)), (3, .int v5), (4, .int (nI (((10 * ((0 + dj19) - 48)) + dj160) - 48))), (5, .int (nI fi))]) [3, 4, 5, 2, 1, 0] rfl ?_
          exact loop91 _ fi trivial (Nat.lt_succ_self _) (by omega)
        · skip
          have nf223 := nI_nlt' (a := (((10 * ((0 + dj19) - 48)) + dj160) - 48)) (b := 48) c175 (by omega) (by omega)
          refine x_aload_n C dX0_oneEgg_81 rfl 4 rfl rfl ?_
          refine x_iconst C (v := 3) dX0_oneEgg_82 (by decide) rfl ?_
          refine x_iload_n C dX0_oneEgg_83 rfl 2 rfl rfl ?_
          refine x_vi C (As := [.int 3, .int v5]) (rest := []) (c_failsAt E l a w170 hW172 (3 : Int32) v5) mf_X8_failsAt w_687 1 k173 rfl rfl rfl (Nat.le_of_ble_eq_true rfl) ⟨(Nat.le_of_ble_eq_true rfl), (Nat.le_of_ble_eq_true rfl)⟩ ⟨(Nat.le_of_ble_eq_true rfl), (Nat.le_of_ble_eq_true rfl)⟩ dX0_oneEgg_84 rfl (fun r225 w226 h224 => ?_)
          obtain ⟨hW227, kq228, zb229⟩ := h224
          have kp230 := keeps_tr kp174 kq228 (fun q hq => by first | omega | (dsimp only at *; omega))
          exact x_zret C hr hlk (zb_nar zb229) dX0_oneEgg_87 ⟨hW227, kp230, zb229⟩
  · skip
    refine x_aload_n C dX0_oneEgg_15 rfl 2 rfl rfl ?_
    refine x_iconst C (v := 1) dX0_oneEgg_16 (by decide) rfl ?_
    refine x_vi C (As := [.int 1]) (rest := []) (c_fails E l a ws hW (1 : Int32)) mf_X8_fails w_678 1 k1 rfl rfl rfl (Nat.le_of_ble_eq_true rfl) ⟨(Nat.le_of_ble_eq_true rfl), (Nat.le_of_ble_eq_true rfl)⟩ ⟨(Nat.le_of_ble_eq_true rfl), (Nat.le_of_ble_eq_true rfl)⟩ dX0_oneEgg_17 rfl (fun r232 w233 h231 => ?_)
    obtain ⟨hW234, kq235, zb236⟩ := h231
    have kp237 := keeps_tr kp0 kq235 (fun q hq => by first | omega | (dsimp only at *; omega))
    exact x_zret C hr hlk (zb_nar zb236) dX0_oneEgg_20 ⟨hW234, kp237, zb236⟩
theorem dX0_someEggs_0 : decode cX0_someEggs 0 = .ok (.aload_n 0, 1) := by decide +kernel
theorem dX0_someEggs_1 : decode cX0_someEggs 1 = .ok (.getfield 28, 3) := by decide +kernel
theorem dX0_someEggs_4 : decode cX0_someEggs 4 = .ok (.istore_n 2, 1) := by decide +kernel
theorem dX0_someEggs_5 : decode cX0_someEggs 5 = .ok (.aload_n 1, 1) := by decide +kernel
theorem dX0_someEggs_6 : decode cX0_someEggs 6 = .ok (.dup, 1) := by decide +kernel
theorem dX0_someEggs_7 : decode cX0_someEggs 7 = .ok (.getfield 61, 3) := by decide +kernel
theorem dX0_someEggs_10 : decode cX0_someEggs 10 = .ok (.iconst 1, 1) := by decide +kernel
theorem dX0_someEggs_11 : decode cX0_someEggs 11 = .ok (.iadd, 1) := by decide +kernel
theorem dX0_someEggs_12 : decode cX0_someEggs 12 = .ok (.putfield 61, 3) := by decide +kernel
theorem dX0_someEggs_15 : decode cX0_someEggs 15 = .ok (.iconst 0, 1) := by decide +kernel
theorem dX0_someEggs_16 : decode cX0_someEggs 16 = .ok (.istore_n 3, 1) := by decide +kernel
theorem dX0_someEggs_17 : decode cX0_someEggs 17 = .ok (.iload_n 3, 1) := by decide +kernel
theorem dX0_someEggs_18 : decode cX0_someEggs 18 = .ok (.bipush 8, 2) := by decide +kernel
theorem dX0_someEggs_20 : decode cX0_someEggs 20 = .ok (.if_icmp .ge 52, 3) := by decide +kernel
theorem dX0_someEggs_23 : decode cX0_someEggs 23 = .ok (.aload_n 0, 1) := by decide +kernel
theorem dX0_someEggs_24 : decode cX0_someEggs 24 = .ok (.aload_n 1, 1) := by decide +kernel
theorem dX0_someEggs_25 : decode cX0_someEggs 25 = .ok (.iload_n 2, 1) := by decide +kernel
theorem dX0_someEggs_26 : decode cX0_someEggs 26 = .ok (.invokevirtual 55, 3) := by decide +kernel
theorem dX0_someEggs_29 : decode cX0_someEggs 29 = .ok (.ifCond .ne 5, 3) := by decide +kernel
theorem dX0_someEggs_32 : decode cX0_someEggs 32 = .ok (.iconst 0, 1) := by decide +kernel
theorem dX0_someEggs_33 : decode cX0_someEggs 33 = .ok (.ireturn, 1) := by decide +kernel
theorem dX0_someEggs_34 : decode cX0_someEggs 34 = .ok (.aload_n 1, 1) := by decide +kernel
theorem dX0_someEggs_35 : decode cX0_someEggs 35 = .ok (.invokevirtual 35, 3) := by decide +kernel
theorem dX0_someEggs_38 : decode cX0_someEggs 38 = .ok (.bipush 41, 2) := by decide +kernel
theorem dX0_someEggs_40 : decode cX0_someEggs 40 = .ok (.if_icmp .ne 15, 3) := by decide +kernel
theorem dX0_someEggs_43 : decode cX0_someEggs 43 = .ok (.aload_n 1, 1) := by decide +kernel
theorem dX0_someEggs_44 : decode cX0_someEggs 44 = .ok (.dup, 1) := by decide +kernel
theorem dX0_someEggs_45 : decode cX0_someEggs 45 = .ok (.getfield 61, 3) := by decide +kernel
theorem dX0_someEggs_48 : decode cX0_someEggs 48 = .ok (.iconst 1, 1) := by decide +kernel
theorem dX0_someEggs_49 : decode cX0_someEggs 49 = .ok (.iadd, 1) := by decide +kernel
theorem dX0_someEggs_50 : decode cX0_someEggs 50 = .ok (.putfield 61, 3) := by decide +kernel
theorem dX0_someEggs_53 : decode cX0_someEggs 53 = .ok (.iconst 1, 1) := by decide +kernel
theorem dX0_someEggs_54 : decode cX0_someEggs 54 = .ok (.ireturn, 1) := by decide +kernel
theorem dX0_someEggs_55 : decode cX0_someEggs 55 = .ok (.aload_n 1, 1) := by decide +kernel
theorem dX0_someEggs_56 : decode cX0_someEggs 56 = .ok (.bipush 43, 2) := by decide +kernel
theorem dX0_someEggs_58 : decode cX0_someEggs 58 = .ok (.invokevirtual 41, 3) := by decide +kernel
theorem dX0_someEggs_61 : decode cX0_someEggs 61 = .ok (.ifCond .ne 5, 3) := by decide +kernel
theorem dX0_someEggs_64 : decode cX0_someEggs 64 = .ok (.iconst 0, 1) := by decide +kernel
theorem dX0_someEggs_65 : decode cX0_someEggs 65 = .ok (.ireturn, 1) := by decide +kernel
theorem dX0_someEggs_66 : decode cX0_someEggs 66 = .ok (.iinc 3 1, 3) := by decide +kernel
theorem dX0_someEggs_69 : decode cX0_someEggs 69 = .ok (.goto (-52), 3) := by decide +kernel
theorem dX0_someEggs_72 : decode cX0_someEggs 72 = .ok (.aload_n 1, 1) := by decide +kernel
theorem dX0_someEggs_73 : decode cX0_someEggs 73 = .ok (.aload_n 1, 1) := by decide +kernel
theorem dX0_someEggs_74 : decode cX0_someEggs 74 = .ok (.invokevirtual 35, 3) := by decide +kernel
theorem dX0_someEggs_77 : decode cX0_someEggs 77 = .ok (.invokestatic 48, 3) := by decide +kernel
theorem dX0_someEggs_80 : decode cX0_someEggs 80 = .ok (.ifCond .eq 8, 3) := by decide +kernel
theorem dX0_someEggs_83 : decode cX0_someEggs 83 = .ok (.bipush 6, 2) := by decide +kernel
theorem dX0_someEggs_85 : decode cX0_someEggs 85 = .ok (.goto 4, 3) := by decide +kernel
theorem dX0_someEggs_88 : decode cX0_someEggs 88 = .ok (.iconst 1, 1) := by decide +kernel
theorem dX0_someEggs_89 : decode cX0_someEggs 89 = .ok (.invokevirtual 45, 3) := by decide +kernel
theorem dX0_someEggs_92 : decode cX0_someEggs 92 = .ok (.ireturn, 1) := by decide +kernel
set_option maxRecDepth 20000 in
set_option maxHeartbeats 4000000 in
theorem c_someEggs (E : xE) (l : Launch) (a : Nat → Nat) (ws : va_W) (hW : WX (okX E a) ws) : xI E l yX0_someEggs cX0_someEggs 4 (some .boolean) 3 [.ref (a 87), .ref (a 1)] ws (fun r w => WX (okX E a) w ∧ keeps ws w (fun q => (q = 1 ∨ q = 2) ∨ (87 ≤ q ∧ q < 92)) ∧ zb r) := by
  refine xI_start (lv := [(0, .ref (a 87)), (1, .ref (a 1))]) RX0 (by decide) rfl (Nat.le_of_ble_eq_true rfl) rfl (fun p e s m below meth c A C hr hlk => ?_)
  have kp0 : keeps ws ws (fun q => (q = 1 ∨ q = 2) ∨ (87 ≤ q ∧ q < 92)) := keeps_rf
  refine x_aload_n C dX0_someEggs_0 rfl 0 rfl rfl ?_
  obtain ⟨_, k1, n2, n4, bn3, bn5, rfl⟩ := hW 87 _ rfl
  refine x_get C (ci := 0) (k := 5) 87 k1 rfl in_X0 (by decide) w_300 rfl dX0_someEggs_1 rfl ?_
  refine x_istore_n C (lv' := [(2, .int (nI n4)), (0, .ref (a 87)), (1, .ref (a 1))]) dX0_someEggs_4 rfl (by decide) rfl rfl ?_
  refine x_aload_n C dX0_someEggs_5 rfl 2 rfl rfl ?_
  refine x_dup C dX0_someEggs_6 rfl rfl ?_
  obtain ⟨_, k6, n7, v9, v10, v11, bn8, rfl⟩ := hW 1 _ rfl
  refine x_get C (ci := 7) (k := 3) 1 k6 rfl in_X8 (by decide) w_42 rfl dX0_someEggs_7 rfl ?_
  refine x_iconst C (v := 1) dX0_someEggs_10 (by decide) rfl ?_
  refine x_iadd C (v := (v10 + (1 : Int32))) dX0_someEggs_11 rfl rfl ?_
  refine x_any (fun v12 => ?_)
  obtain ⟨w13, hw14⟩ : ∃ w : va_W, w = List.set ws 1 (ob (a 1) 7 [.ref (a 2), .int (nI n7), .int v9, .int v12, .int v11]) := ⟨_, rfl⟩
  refine x_put C (ci := 7) (k := 3) (ty := .int) 1 k6 rfl in_X8 tyX8 tyX8_ok nmX8 (by decide) w_42 rfl rfl rfl rfl (Nat.le_of_ble_eq_true rfl) hw14.symm dX0_someEggs_12 rfl ?_
  have hW15 : WX (okX E a) w13 := by rw [hw14]; exact hW.set (k := 1) rfl ⟨n7, v9, v12, v11, by omega, rfl⟩
  have k16 : w13[87]? = some (ob (a 87) 0 [.int (nI n2), .ref (a 88), .ref (a 89), .ref (a 90), .ref (a 91), .int (nI n4)]) := by rw [hw14]; exact set_ne k1 (by decide)
  have k17 : w13[1]? = some (ob (a 1) 7 [.ref (a 2), .int (nI n7), .int v9, .int v12, .int v11]) := by rw [hw14]; exact set_eq k6
  have kp18 := keeps_set kp0 hw14 (by first | exact rfl | decide | omega | (dsimp only; omega))
  refine x_iconst C (v := 0) dX0_someEggs_15 (by decide) rfl ?_
  refine x_istore_n C (lv' := [(3, .int 0), (2, .int (nI n4)), (0, .ref (a 87)), (1, .ref (a 1))]) dX0_someEggs_16 rfl (by decide) rfl rfl ?_
  have loop17 : ∀ (fu17 : Nat) (k : Nat) (wl17 : va_W), WX (okX E a) wl17 → 8 - k < fu17 → k ≤ 8 → keeps ws wl17 (fun q => (q = 1 ∨ q = 2) ∨ (87 ≤ q ∧ q < 92)) → X E p l e (xRm 3 0 0) s m ([.ref (a 87), .ref (a 1)] : List Value).toArray below meth c A 4 0 0 (MQ below (va_Qi (fun r w => WX (okX E a) w ∧ keeps ws w (fun q => (q = 1 ∨ q = 2) ∨ (87 ≤ q ∧ q < 92)) ∧ zb r) (xB E A) A) ([.ref (a 87), .ref (a 1)] : List Value).toArray s 0 0 A) wl17 17 [(0, .ref (a 87)), (1, .ref (a 1)), (2, .int (nI n4)), (3, .int (nI k))] [] := by
    intro fu17
    induction fu17 with
    | zero => intro k wl17 _ q; omega
    | succ fu17 ih17 =>
      intro k wl17 hWl17 me17 iv17_0 kq17
      refine x_iload_n C dX0_someEggs_17 rfl 3 rfl rfl ?_
      refine x_bipush C (v := 8) dX0_someEggs_18 (by decide) rfl ?_
      refine x_icmp_ge C (tgt := 72) dX0_someEggs_20 (by decide) rfl (fun c19 => ?_) (fun c19 => ?_)
      · skip
        have nf20 := nI_le' (a := 8) (b := k) c19 (by omega) (by omega)
        refine x_aload_n C dX0_someEggs_72 rfl 1 rfl rfl ?_
        refine x_aload_n C dX0_someEggs_73 rfl 1 rfl rfl ?_
        obtain ⟨_, k21, n22, v24, v25, v26, bn23, rfl⟩ := hWl17 1 _ rfl
        refine x_vi C (As := []) (rest := [.ref (a 1)]) (c_signE E l a wl17 hWl17) mf_X8_sign w_676 1 k21 rfl rfl rfl (Nat.le_of_ble_eq_true rfl) ⟨(Nat.le_of_ble_eq_true rfl), (Nat.le_of_ble_eq_true rfl)⟩ ⟨(Nat.le_of_ble_eq_true rfl), (Nat.le_of_ble_eq_true rfl)⟩ dX0_someEggs_74 rfl (fun r28 w29 h27 => ?_)
        obtain ⟨hW31, x30⟩ := h27
        refine x_top x30 (x_ws hW31 ?_)
        refine x_sn C (As := [.int (sgW wl17)]) (rest := [.ref (a 1)]) (c_isDigitE E l a wl17 hWl17 ((sgW wl17))) mf_X11_isDigit n_677 rfl rfl (Nat.le_of_ble_eq_true rfl) ⟨(Nat.le_of_ble_eq_true rfl), (Nat.le_of_ble_eq_true rfl)⟩ ⟨(Nat.le_of_ble_eq_true rfl), (Nat.le_of_ble_eq_true rfl)⟩ dX0_someEggs_77 rfl (fun r33 w34 h32 => ?_)
        obtain ⟨hW35, zb36, x37⟩ := h32
        refine x_ws hW35 ?_
        refine x_if_eq C (tgt := 88) dX0_someEggs_80 (by decide) rfl (fun c38 => ?_) (fun c38 => ?_)
        · skip
          refine x_iconst C (v := 1) dX0_someEggs_88 (by decide) rfl ?_
          refine x_vi C (As := [.int 1]) (rest := []) (c_fails E l a wl17 hWl17 (1 : Int32)) mf_X8_fails w_678 1 k21 rfl rfl rfl (Nat.le_of_ble_eq_true rfl) ⟨(Nat.le_of_ble_eq_true rfl), (Nat.le_of_ble_eq_true rfl)⟩ ⟨(Nat.le_of_ble_eq_true rfl), (Nat.le_of_ble_eq_true rfl)⟩ dX0_someEggs_89 rfl (fun r40 w41 h39 => ?_)
          obtain ⟨hW42, kq43, zb44⟩ := h39
          have kp45 := keeps_tr kq17 kq43 (fun q hq => by first | omega | (dsimp only at *; omega))
          exact x_zret C hr hlk (zb_nar zb44) dX0_someEggs_92 ⟨hW42, kp45, zb44⟩
        · skip
          obtain ⟨dj46, dl47, dh48, de49⟩ := w_nat (a := 48) (b := 57) (by decide) (by decide) (x37 c38)
          refine x_bipush C (v := 6) dX0_someEggs_83 (by decide) rfl ?_
          refine x_goto C (tgt := 89) dX0_someEggs_85 (by decide) ?_
          refine x_vi C (As := [.int 6]) (rest := []) (c_fails E l a wl17 hWl17 (6 : Int32)) mf_X8_fails w_678 1 k21 rfl rfl rfl (Nat.le_of_ble_eq_true rfl) ⟨(Nat.le_of_ble_eq_true rfl), (Nat.le_of_ble_eq_true rfl)⟩ ⟨(Nat.le_of_ble_eq_true rfl), (Nat.le_of_ble_eq_true rfl)⟩ dX0_someEggs_89 rfl (fun r51 w52 h50 => ?_)
          obtain ⟨hW53, kq54, zb55⟩ := h50
          have kp56 := keeps_tr kq17 kq54 (fun q hq => by first | omega | (dsimp only at *; omega))
          exact x_zret C hr hlk (zb_nar zb55) dX0_someEggs_92 ⟨hW53, kp56, zb55⟩
      · skip
        have nf57 := nI_nle' (a := 8) (b := k) c19 (by omega) (by omega)
        refine x_aload_n C dX0_someEggs_23 rfl 0 rfl rfl ?_
        refine x_aload_n C dX0_someEggs_24 rfl 1 rfl rfl ?_
        refine x_iload_n C dX0_someEggs_25 rfl 2 rfl rfl ?_
        obtain ⟨_, k58, n59, n61, bn60, bn62, rfl⟩ := hWl17 87 _ rfl
        refine x_vi C (As := [.ref (a 1), .int (nI n4)]) (rest := []) (c_oneEgg E l a wl17 hWl17 n4 (by omega)) mf_X0_oneEgg w_683 87 k58 rfl rfl rfl (Nat.le_of_ble_eq_true rfl) ⟨(Nat.le_of_ble_eq_true rfl), (Nat.le_of_ble_eq_true rfl)⟩ ⟨(Nat.le_of_ble_eq_true rfl), (Nat.le_of_ble_eq_true rfl)⟩ dX0_someEggs_26 rfl (fun r64 w65 h63 => ?_)
        obtain ⟨hW66, kq67, zb68⟩ := h63
        have kp69 := keeps_tr kq17 kq67 (fun q hq => by first | omega | (dsimp only at *; omega))
        refine x_if_ne C (tgt := 34) dX0_someEggs_29 (by decide) rfl (fun c70 => ?_) (fun c70 => ?_)
        · skip
          refine x_aload_n C dX0_someEggs_34 rfl 1 rfl rfl ?_
          obtain ⟨_, k71, n72, v74, v75, v76, bn73, rfl⟩ := hW66 1 _ rfl
          refine x_vi C (As := []) (rest := []) (c_signE E l a w65 hW66) mf_X8_sign w_676 1 k71 rfl rfl rfl (Nat.le_of_ble_eq_true rfl) ⟨(Nat.le_of_ble_eq_true rfl), (Nat.le_of_ble_eq_true rfl)⟩ ⟨(Nat.le_of_ble_eq_true rfl), (Nat.le_of_ble_eq_true rfl)⟩ dX0_someEggs_35 rfl (fun r78 w79 h77 => ?_)
          obtain ⟨hW81, x80⟩ := h77
          refine x_top x80 (x_ws hW81 ?_)
          refine x_bipush C (v := 41) dX0_someEggs_38 (by decide) rfl ?_
          refine x_icmp_ne C (tgt := 55) dX0_someEggs_40 (by decide) rfl (fun c82 => ?_) (fun c82 => ?_)
          · skip
            refine x_aload_n C dX0_someEggs_55 rfl 1 rfl rfl ?_
            refine x_bipush C (v := 43) dX0_someEggs_56 (by decide) rfl ?_
            refine x_vi C (As := [.int 43]) (rest := []) (c_takes E l a w65 hW66 (43 : Int32)) mf_X8_takes w_691 1 k71 rfl rfl rfl (Nat.le_of_ble_eq_true rfl) ⟨(Nat.le_of_ble_eq_true rfl), (Nat.le_of_ble_eq_true rfl)⟩ ⟨(Nat.le_of_ble_eq_true rfl), (Nat.le_of_ble_eq_true rfl)⟩ dX0_someEggs_58 rfl (fun r84 w85 h83 => ?_)
            obtain ⟨hW86, kq87, zb88⟩ := h83
            have kp89 := keeps_tr kp69 kq87 (fun q hq => by first | omega | (dsimp only at *; omega))
            refine x_if_ne C (tgt := 66) dX0_someEggs_61 (by decide) rfl (fun c90 => ?_) (fun c90 => ?_)
            · skip
              refine x_iinc C (v := (nI (k + 1))) (lv' := [(3, .int (nI (k + 1))), (0, .ref (a 87)), (1, .ref (a 1)), (2, .int (nI n4))]) dX0_someEggs_66 3 rfl (nI_add k 1) (by decide) rfl rfl ?_
              refine x_goto C (tgt := 17) dX0_someEggs_69 (by decide) ?_
              refine x_lv (lv1 := [(0, .ref (a 87)), (1, .ref (a 1)), (2, .int (nI n4)), (3, .int (nI (k + 1)))]) [1, 2, 3, 0] rfl ?_
              exact ih17 (k + 1) w85 hW86 (by omega) (by omega) kp89
            · skip
              refine x_iconst C (v := 0) dX0_someEggs_64 (by decide) rfl ?_
              exact x_zret C hr hlk rfl dX0_someEggs_65 ⟨hW86, kp89, (Or.inl rfl)⟩
          · skip
            refine x_aload_n C dX0_someEggs_43 rfl 1 rfl rfl ?_
            refine x_dup C dX0_someEggs_44 rfl rfl ?_
            refine x_get C (ci := 7) (k := 3) 1 k71 rfl in_X8 (by decide) w_42 rfl dX0_someEggs_45 rfl ?_
            refine x_iconst C (v := 1) dX0_someEggs_48 (by decide) rfl ?_
            refine x_iadd C (v := (v75 + (1 : Int32))) dX0_someEggs_49 rfl rfl ?_
            refine x_any (fun v91 => ?_)
            obtain ⟨w92, hw93⟩ : ∃ w : va_W, w = List.set w65 1 (ob (a 1) 7 [.ref (a 2), .int (nI n72), .int v74, .int v91, .int v76]) := ⟨_, rfl⟩
            refine x_put C (ci := 7) (k := 3) (ty := .int) 1 k71 rfl in_X8 tyX8 tyX8_ok nmX8 (by decide) w_42 rfl rfl rfl rfl (Nat.le_of_ble_eq_true rfl) hw93.symm dX0_someEggs_50 rfl ?_
            have hW94 : WX (okX E a) w92 := by rw [hw93]; exact hW66.set (k := 1) rfl ⟨n72, v74, v91, v76, by omega, rfl⟩
            have k95 : w92[1]? = some (ob (a 1) 7 [.ref (a 2), .int (nI n72), .int v74, .int v91, .int v76]) := by rw [hw93]; exact set_eq k71
            have kp96 := keeps_set kp69 hw93 (by first | exact rfl | decide | omega | (dsimp only; omega))
            refine x_iconst C (v := 1) dX0_someEggs_53 (by decide) rfl ?_
            exact x_zret C hr hlk rfl dX0_someEggs_54 ⟨hW94, kp96, (Or.inr rfl)⟩
        · skip
          refine x_iconst C (v := 0) dX0_someEggs_32 (by decide) rfl ?_
          exact x_zret C hr hlk rfl dX0_someEggs_33 ⟨hW66, kp69, (Or.inl rfl)⟩
  refine x_lv (lv1 := [(0, .ref (a 87)), (1, .ref (a 1)), (2, .int (nI n4)), (3, .int 0)]) [2, 3, 1, 0] rfl ?_
  exact loop17 _ 0 w13 hW15 (Nat.lt_succ_self _) (by omega) kp18
theorem dX0_whatIsDone_0 : decode cX0_whatIsDone 0 = .ok (.aload_n 1, 1) := by decide +kernel
theorem dX0_whatIsDone_1 : decode cX0_whatIsDone 1 = .ok (.invokevirtual 35, 3) := by decide +kernel
theorem dX0_whatIsDone_4 : decode cX0_whatIsDone 4 = .ok (.istore_n 3, 1) := by decide +kernel
theorem dX0_whatIsDone_5 : decode cX0_whatIsDone 5 = .ok (.iload_n 3, 1) := by decide +kernel
theorem dX0_whatIsDone_6 : decode cX0_whatIsDone 6 = .ok (.bipush 62, 2) := by decide +kernel
theorem dX0_whatIsDone_8 : decode cX0_whatIsDone 8 = .ok (.if_icmp .eq 27, 3) := by decide +kernel
theorem dX0_whatIsDone_11 : decode cX0_whatIsDone 11 = .ok (.iload_n 3, 1) := by decide +kernel
theorem dX0_whatIsDone_12 : decode cX0_whatIsDone 12 = .ok (.bipush 33, 2) := by decide +kernel
theorem dX0_whatIsDone_14 : decode cX0_whatIsDone 14 = .ok (.if_icmp .eq 21, 3) := by decide +kernel
theorem dX0_whatIsDone_17 : decode cX0_whatIsDone 17 = .ok (.iload_n 3, 1) := by decide +kernel
theorem dX0_whatIsDone_18 : decode cX0_whatIsDone 18 = .ok (.bipush 46, 2) := by decide +kernel
theorem dX0_whatIsDone_20 : decode cX0_whatIsDone 20 = .ok (.if_icmp .eq 15, 3) := by decide +kernel
theorem dX0_whatIsDone_23 : decode cX0_whatIsDone 23 = .ok (.iload_n 3, 1) := by decide +kernel
theorem dX0_whatIsDone_24 : decode cX0_whatIsDone 24 = .ok (.bipush 42, 2) := by decide +kernel
theorem dX0_whatIsDone_26 : decode cX0_whatIsDone 26 = .ok (.if_icmp .eq 9, 3) := by decide +kernel
theorem dX0_whatIsDone_29 : decode cX0_whatIsDone 29 = .ok (.aload_n 1, 1) := by decide +kernel
theorem dX0_whatIsDone_30 : decode cX0_whatIsDone 30 = .ok (.iconst 1, 1) := by decide +kernel
theorem dX0_whatIsDone_31 : decode cX0_whatIsDone 31 = .ok (.invokevirtual 45, 3) := by decide +kernel
theorem dX0_whatIsDone_34 : decode cX0_whatIsDone 34 = .ok (.ireturn, 1) := by decide +kernel
theorem dX0_whatIsDone_35 : decode cX0_whatIsDone 35 = .ok (.aload_n 1, 1) := by decide +kernel
theorem dX0_whatIsDone_36 : decode cX0_whatIsDone 36 = .ok (.dup, 1) := by decide +kernel
theorem dX0_whatIsDone_37 : decode cX0_whatIsDone 37 = .ok (.getfield 61, 3) := by decide +kernel
theorem dX0_whatIsDone_40 : decode cX0_whatIsDone 40 = .ok (.iconst 1, 1) := by decide +kernel
theorem dX0_whatIsDone_41 : decode cX0_whatIsDone 41 = .ok (.iadd, 1) := by decide +kernel
theorem dX0_whatIsDone_42 : decode cX0_whatIsDone 42 = .ok (.putfield 61, 3) := by decide +kernel
theorem dX0_whatIsDone_45 : decode cX0_whatIsDone 45 = .ok (.aload_n 0, 1) := by decide +kernel
theorem dX0_whatIsDone_46 : decode cX0_whatIsDone 46 = .ok (.getfield 15, 3) := by decide +kernel
theorem dX0_whatIsDone_49 : decode cX0_whatIsDone 49 = .ok (.iload_n 2, 1) := by decide +kernel
theorem dX0_whatIsDone_50 : decode cX0_whatIsDone 50 = .ok (.iload_n 3, 1) := by decide +kernel
theorem dX0_whatIsDone_51 : decode cX0_whatIsDone 51 = .ok (.iastore, 1) := by decide +kernel
theorem dX0_whatIsDone_52 : decode cX0_whatIsDone 52 = .ok (.aload_n 0, 1) := by decide +kernel
theorem dX0_whatIsDone_53 : decode cX0_whatIsDone 53 = .ok (.getfield 19, 3) := by decide +kernel
theorem dX0_whatIsDone_56 : decode cX0_whatIsDone 56 = .ok (.iload_n 2, 1) := by decide +kernel
theorem dX0_whatIsDone_57 : decode cX0_whatIsDone 57 = .ok (.iconst (-1), 1) := by decide +kernel
theorem dX0_whatIsDone_58 : decode cX0_whatIsDone 58 = .ok (.iastore, 1) := by decide +kernel
theorem dX0_whatIsDone_59 : decode cX0_whatIsDone 59 = .ok (.iload_n 3, 1) := by decide +kernel
theorem dX0_whatIsDone_60 : decode cX0_whatIsDone 60 = .ok (.bipush 46, 2) := by decide +kernel
theorem dX0_whatIsDone_62 : decode cX0_whatIsDone 62 = .ok (.if_icmp .eq 9, 3) := by decide +kernel
theorem dX0_whatIsDone_65 : decode cX0_whatIsDone 65 = .ok (.iload_n 3, 1) := by decide +kernel
theorem dX0_whatIsDone_66 : decode cX0_whatIsDone 66 = .ok (.bipush 42, 2) := by decide +kernel
theorem dX0_whatIsDone_68 : decode cX0_whatIsDone 68 = .ok (.if_icmp .ne 5, 3) := by decide +kernel
theorem dX0_whatIsDone_71 : decode cX0_whatIsDone 71 = .ok (.iconst 1, 1) := by decide +kernel
theorem dX0_whatIsDone_72 : decode cX0_whatIsDone 72 = .ok (.ireturn, 1) := by decide +kernel
theorem dX0_whatIsDone_73 : decode cX0_whatIsDone 73 = .ok (.aload_n 1, 1) := by decide +kernel
theorem dX0_whatIsDone_74 : decode cX0_whatIsDone 74 = .ok (.invokevirtual 35, 3) := by decide +kernel
theorem dX0_whatIsDone_77 : decode cX0_whatIsDone 77 = .ok (.istore 4, 2) := by decide +kernel
theorem dX0_whatIsDone_79 : decode cX0_whatIsDone 79 = .ok (.iload 4, 2) := by decide +kernel
theorem dX0_whatIsDone_81 : decode cX0_whatIsDone 81 = .ok (.invokestatic 48, 3) := by decide +kernel
theorem dX0_whatIsDone_84 : decode cX0_whatIsDone 84 = .ok (.ifCond .ne 9, 3) := by decide +kernel
theorem dX0_whatIsDone_87 : decode cX0_whatIsDone 87 = .ok (.aload_n 1, 1) := by decide +kernel
theorem dX0_whatIsDone_88 : decode cX0_whatIsDone 88 = .ok (.iconst 1, 1) := by decide +kernel
theorem dX0_whatIsDone_89 : decode cX0_whatIsDone 89 = .ok (.invokevirtual 45, 3) := by decide +kernel
theorem dX0_whatIsDone_92 : decode cX0_whatIsDone 92 = .ok (.ireturn, 1) := by decide +kernel
theorem dX0_whatIsDone_93 : decode cX0_whatIsDone 93 = .ok (.iload 4, 2) := by decide +kernel
theorem dX0_whatIsDone_95 : decode cX0_whatIsDone 95 = .ok (.bipush 48, 2) := by decide +kernel
theorem dX0_whatIsDone_97 : decode cX0_whatIsDone 97 = .ok (.isub, 1) := by decide +kernel
theorem dX0_whatIsDone_98 : decode cX0_whatIsDone 98 = .ok (.bipush 8, 2) := by decide +kernel
theorem dX0_whatIsDone_100 : decode cX0_whatIsDone 100 = .ok (.if_icmp .lt 9, 3) := by decide +kernel
theorem dX0_whatIsDone_103 : decode cX0_whatIsDone 103 = .ok (.aload_n 1, 1) := by decide +kernel
theorem dX0_whatIsDone_104 : decode cX0_whatIsDone 104 = .ok (.iconst 3, 1) := by decide +kernel
theorem dX0_whatIsDone_105 : decode cX0_whatIsDone 105 = .ok (.invokevirtual 45, 3) := by decide +kernel
theorem dX0_whatIsDone_108 : decode cX0_whatIsDone 108 = .ok (.ireturn, 1) := by decide +kernel
theorem dX0_whatIsDone_109 : decode cX0_whatIsDone 109 = .ok (.aload_n 1, 1) := by decide +kernel
theorem dX0_whatIsDone_110 : decode cX0_whatIsDone 110 = .ok (.dup, 1) := by decide +kernel
theorem dX0_whatIsDone_111 : decode cX0_whatIsDone 111 = .ok (.getfield 61, 3) := by decide +kernel
theorem dX0_whatIsDone_114 : decode cX0_whatIsDone 114 = .ok (.iconst 1, 1) := by decide +kernel
theorem dX0_whatIsDone_115 : decode cX0_whatIsDone 115 = .ok (.iadd, 1) := by decide +kernel
theorem dX0_whatIsDone_116 : decode cX0_whatIsDone 116 = .ok (.putfield 61, 3) := by decide +kernel
theorem dX0_whatIsDone_119 : decode cX0_whatIsDone 119 = .ok (.aload_n 0, 1) := by decide +kernel
theorem dX0_whatIsDone_120 : decode cX0_whatIsDone 120 = .ok (.getfield 19, 3) := by decide +kernel
theorem dX0_whatIsDone_123 : decode cX0_whatIsDone 123 = .ok (.iload_n 2, 1) := by decide +kernel
theorem dX0_whatIsDone_124 : decode cX0_whatIsDone 124 = .ok (.iload 4, 2) := by decide +kernel
theorem dX0_whatIsDone_126 : decode cX0_whatIsDone 126 = .ok (.bipush 48, 2) := by decide +kernel
theorem dX0_whatIsDone_128 : decode cX0_whatIsDone 128 = .ok (.isub, 1) := by decide +kernel
theorem dX0_whatIsDone_129 : decode cX0_whatIsDone 129 = .ok (.iastore, 1) := by decide +kernel
theorem dX0_whatIsDone_130 : decode cX0_whatIsDone 130 = .ok (.iconst 1, 1) := by decide +kernel
theorem dX0_whatIsDone_131 : decode cX0_whatIsDone 131 = .ok (.ireturn, 1) := by decide +kernel
set_option maxRecDepth 20000 in
set_option maxHeartbeats 4000000 in
theorem c_whatIsDone (E : xE) (l : Launch) (a : Nat → Nat) (ws : va_W) (hW : WX (okX E a) ws) (k : Nat) (hk : k ≤ 23) : xI E l yX0_whatIsDone cX0_whatIsDone 5 (some .boolean) 2 [.ref (a 87), .ref (a 1), .int (nI k)] ws (fun r w => WX (okX E a) w ∧ keeps ws w (fun q => (q = 1 ∨ q = 2) ∨ (87 ≤ q ∧ q < 92)) ∧ zb r) := by
  refine xI_start (lv := [(0, .ref (a 87)), (1, .ref (a 1)), (2, .int (nI k))]) RX0 (by decide) rfl (Nat.le_of_ble_eq_true rfl) rfl (fun p e s m below meth c A C hr hlk => ?_)
  have kp0 : keeps ws ws (fun q => (q = 1 ∨ q = 2) ∨ (87 ≤ q ∧ q < 92)) := keeps_rf
  refine x_aload_n C dX0_whatIsDone_0 rfl 1 rfl rfl ?_
  obtain ⟨_, k1, n2, v4, v5, v6, bn3, rfl⟩ := hW 1 _ rfl
  refine x_vi C (As := []) (rest := []) (c_signE E l a ws hW) mf_X8_sign w_676 1 k1 rfl rfl rfl (Nat.le_of_ble_eq_true rfl) ⟨(Nat.le_of_ble_eq_true rfl), (Nat.le_of_ble_eq_true rfl)⟩ ⟨(Nat.le_of_ble_eq_true rfl), (Nat.le_of_ble_eq_true rfl)⟩ dX0_whatIsDone_1 rfl (fun r8 w9 h7 => ?_)
  obtain ⟨hW11, x10⟩ := h7
  refine x_top x10 (x_ws hW11 ?_)
  refine x_istore_n C (lv' := [(3, .int (sgW ws)), (0, .ref (a 87)), (1, .ref (a 1)), (2, .int (nI k))]) dX0_whatIsDone_4 rfl (by decide) rfl rfl ?_
  refine x_iload_n C dX0_whatIsDone_5 rfl 0 rfl rfl ?_
  refine x_bipush C (v := 62) dX0_whatIsDone_6 (by decide) rfl ?_
  refine x_icmp_eq C (tgt := 35) dX0_whatIsDone_8 (by decide) rfl (fun c12 => ?_) (fun c12 => ?_)
  · skip
    refine x_aload_n C dX0_whatIsDone_35 rfl 2 rfl rfl ?_
    refine x_dup C dX0_whatIsDone_36 rfl rfl ?_
    refine x_get C (ci := 7) (k := 3) 1 k1 rfl in_X8 (by decide) w_42 rfl dX0_whatIsDone_37 rfl ?_
    refine x_iconst C (v := 1) dX0_whatIsDone_40 (by decide) rfl ?_
    refine x_iadd C (v := (v5 + (1 : Int32))) dX0_whatIsDone_41 rfl rfl ?_
    refine x_any (fun v13 => ?_)
    obtain ⟨w14, hw15⟩ : ∃ w : va_W, w = List.set ws 1 (ob (a 1) 7 [.ref (a 2), .int (nI n2), .int v4, .int v13, .int v6]) := ⟨_, rfl⟩
    refine x_put C (ci := 7) (k := 3) (ty := .int) 1 k1 rfl in_X8 tyX8 tyX8_ok nmX8 (by decide) w_42 rfl rfl rfl rfl (Nat.le_of_ble_eq_true rfl) hw15.symm dX0_whatIsDone_42 rfl ?_
    have hW16 : WX (okX E a) w14 := by rw [hw15]; exact hW.set (k := 1) rfl ⟨n2, v4, v13, v6, by omega, rfl⟩
    have k17 : w14[1]? = some (ob (a 1) 7 [.ref (a 2), .int (nI n2), .int v4, .int v13, .int v6]) := by rw [hw15]; exact set_eq k1
    have kp18 := keeps_set kp0 hw15 (by first | exact rfl | decide | omega | (dsimp only; omega))
    refine x_aload_n C dX0_whatIsDone_45 rfl 1 rfl rfl ?_
    obtain ⟨_, k19, n20, n22, bn21, bn23, rfl⟩ := hW16 87 _ rfl
    refine x_get C (ci := 0) (k := 1) 87 k19 rfl in_X0 (by decide) w_296 rfl dX0_whatIsDone_46 rfl ?_
    refine x_iload_n C dX0_whatIsDone_49 rfl 3 rfl rfl ?_
    refine x_iload_n C dX0_whatIsDone_50 rfl 0 rfl rfl ?_
    obtain ⟨_, k24, f25, rfl⟩ := hW16 88 _ rfl
    obtain ⟨w26, hw27⟩ : ∃ w : va_W, w = List.set w14 88 (iA E (a 88) 24 (upd f25 (nI k).toNatClampNeg (sgW ws))) := ⟨_, rfl⟩
    refine x_iast C 88 k24 (vp_in_nI (by omega) (by decide)) hw27.symm dX0_whatIsDone_51 rfl ?_
    have hW28 : WX (okX E a) w26 := by rw [hw27]; exact hW16.set (k := 88) rfl ⟨_, rfl⟩
    have k29 : w26[1]? = some (ob (a 1) 7 [.ref (a 2), .int (nI n2), .int v4, .int v13, .int v6]) := by rw [hw27]; exact set_ne k17 (by decide)
    have k30 : w26[87]? = some (ob (a 87) 0 [.int (nI n20), .ref (a 88), .ref (a 89), .ref (a 90), .ref (a 91), .int (nI n22)]) := by rw [hw27]; exact set_ne k19 (by decide)
    have k31 : w26[88]? = some (iA E (a 88) 24 (upd f25 (nI k).toNatClampNeg (sgW ws))) := by rw [hw27]; exact set_eq k24
    have kp32 := keeps_set kp18 hw27 (by first | exact rfl | decide | omega | (dsimp only; omega))
    refine x_aload_n C dX0_whatIsDone_52 rfl 1 rfl rfl ?_
    refine x_get C (ci := 0) (k := 2) 87 k30 rfl in_X0 (by decide) w_297 rfl dX0_whatIsDone_53 rfl ?_
    refine x_iload_n C dX0_whatIsDone_56 rfl 3 rfl rfl ?_
    refine x_iconst C (v := (-1)) dX0_whatIsDone_57 (by decide) rfl ?_
    obtain ⟨_, k33, f34, rfl⟩ := hW28 89 _ rfl
    obtain ⟨w35, hw36⟩ : ∃ w : va_W, w = List.set w26 89 (iA E (a 89) 24 (upd f34 (nI k).toNatClampNeg (-1))) := ⟨_, rfl⟩
    refine x_iast C 89 k33 (vp_in_nI (by omega) (by decide)) hw36.symm dX0_whatIsDone_58 rfl ?_
    have hW37 : WX (okX E a) w35 := by rw [hw36]; exact hW28.set (k := 89) rfl ⟨_, rfl⟩
    have k38 : w35[1]? = some (ob (a 1) 7 [.ref (a 2), .int (nI n2), .int v4, .int v13, .int v6]) := by rw [hw36]; exact set_ne k29 (by decide)
    have k39 : w35[87]? = some (ob (a 87) 0 [.int (nI n20), .ref (a 88), .ref (a 89), .ref (a 90), .ref (a 91), .int (nI n22)]) := by rw [hw36]; exact set_ne k30 (by decide)
    have k40 : w35[88]? = some (iA E (a 88) 24 (upd f25 (nI k).toNatClampNeg (sgW ws))) := by rw [hw36]; exact set_ne k31 (by decide)
    have k41 : w35[89]? = some (iA E (a 89) 24 (upd f34 (nI k).toNatClampNeg (-1))) := by rw [hw36]; exact set_eq k33
    have kp42 := keeps_set kp32 hw36 (by first | exact rfl | decide | omega | (dsimp only; omega))
    refine x_iload_n C dX0_whatIsDone_59 rfl 0 rfl rfl ?_
    refine x_bipush C (v := 46) dX0_whatIsDone_60 (by decide) rfl ?_
    refine x_icmp_eq C (tgt := 71) dX0_whatIsDone_62 (by decide) rfl (fun c43 => ?_) (fun c43 => ?_)
    · skip
      refine x_iconst C (v := 1) dX0_whatIsDone_71 (by decide) rfl ?_
      exact x_zret C hr hlk rfl dX0_whatIsDone_72 ⟨hW37, kp42, (Or.inr rfl)⟩
    · skip
      refine x_iload_n C dX0_whatIsDone_65 rfl 0 rfl rfl ?_
      refine x_bipush C (v := 42) dX0_whatIsDone_66 (by decide) rfl ?_
      refine x_icmp_ne C (tgt := 73) dX0_whatIsDone_68 (by decide) rfl (fun c44 => ?_) (fun c44 => ?_)
      · skip
        refine x_aload_n C dX0_whatIsDone_73 rfl 2 rfl rfl ?_
        refine x_vi C (As := []) (rest := []) (c_signE E l a w35 hW37) mf_X8_sign w_676 1 k38 rfl rfl rfl (Nat.le_of_ble_eq_true rfl) ⟨(Nat.le_of_ble_eq_true rfl), (Nat.le_of_ble_eq_true rfl)⟩ ⟨(Nat.le_of_ble_eq_true rfl), (Nat.le_of_ble_eq_true rfl)⟩ dX0_whatIsDone_74 rfl (fun r46 w47 h45 => ?_)
        obtain ⟨hW49, x48⟩ := h45
        refine x_top x48 (x_ws hW49 ?_)
        refine x_istore C (lv' := [(4, .int (sgW w35)), (3, .int (sgW ws)), (0, .ref (a 87)), (1, .ref (a 1)), (2, .int (nI k))]) dX0_whatIsDone_77 (by decide) rfl rfl ?_
        refine x_iload C dX0_whatIsDone_79 0 rfl rfl ?_
        refine x_sn C (As := [.int (sgW w35)]) (rest := []) (c_isDigitE E l a w35 hW37 ((sgW w35))) mf_X11_isDigit n_677 rfl rfl (Nat.le_of_ble_eq_true rfl) ⟨(Nat.le_of_ble_eq_true rfl), (Nat.le_of_ble_eq_true rfl)⟩ ⟨(Nat.le_of_ble_eq_true rfl), (Nat.le_of_ble_eq_true rfl)⟩ dX0_whatIsDone_81 rfl (fun r51 w52 h50 => ?_)
        obtain ⟨hW53, zb54, x55⟩ := h50
        refine x_ws hW53 ?_
        refine x_if_ne C (tgt := 93) dX0_whatIsDone_84 (by decide) rfl (fun c56 => ?_) (fun c56 => ?_)
        · skip
          obtain ⟨dj57, dl58, dh59, de60⟩ := w_nat (a := 48) (b := 57) (by decide) (by decide) (x55 c56)
          refine x_iload C dX0_whatIsDone_93 0 rfl rfl ?_
          refine x_bipush C (v := 48) dX0_whatIsDone_95 (by decide) rfl ?_
          refine x_isub C (v := ((sgW w35) - (48 : Int32))) dX0_whatIsDone_97 rfl rfl ?_
          refine x_any (fun v61 => ?_)
          refine x_bipush C (v := 8) dX0_whatIsDone_98 (by decide) rfl ?_
          refine x_icmp_lt C (tgt := 109) dX0_whatIsDone_100 (by decide) rfl (fun c62 => ?_) (fun c62 => ?_)
          · skip
            refine x_aload_n C dX0_whatIsDone_109 rfl 3 rfl rfl ?_
            refine x_dup C dX0_whatIsDone_110 rfl rfl ?_
            refine x_get C (ci := 7) (k := 3) 1 k38 rfl in_X8 (by decide) w_42 rfl dX0_whatIsDone_111 rfl ?_
            refine x_iconst C (v := 1) dX0_whatIsDone_114 (by decide) rfl ?_
            refine x_iadd C (v := (v13 + (1 : Int32))) dX0_whatIsDone_115 rfl rfl ?_
            refine x_any (fun v63 => ?_)
            obtain ⟨w64, hw65⟩ : ∃ w : va_W, w = List.set w35 1 (ob (a 1) 7 [.ref (a 2), .int (nI n2), .int v4, .int v63, .int v6]) := ⟨_, rfl⟩
            refine x_put C (ci := 7) (k := 3) (ty := .int) 1 k38 rfl in_X8 tyX8 tyX8_ok nmX8 (by decide) w_42 rfl rfl rfl rfl (Nat.le_of_ble_eq_true rfl) hw65.symm dX0_whatIsDone_116 rfl ?_
            have hW66 : WX (okX E a) w64 := by rw [hw65]; exact hW37.set (k := 1) rfl ⟨n2, v4, v63, v6, by omega, rfl⟩
            have k67 : w64[1]? = some (ob (a 1) 7 [.ref (a 2), .int (nI n2), .int v4, .int v63, .int v6]) := by rw [hw65]; exact set_eq k38
            have k68 : w64[87]? = some (ob (a 87) 0 [.int (nI n20), .ref (a 88), .ref (a 89), .ref (a 90), .ref (a 91), .int (nI n22)]) := by rw [hw65]; exact set_ne k39 (by decide)
            have k69 : w64[88]? = some (iA E (a 88) 24 (upd f25 (nI k).toNatClampNeg (sgW ws))) := by rw [hw65]; exact set_ne k40 (by decide)
            have k70 : w64[89]? = some (iA E (a 89) 24 (upd f34 (nI k).toNatClampNeg (-1))) := by rw [hw65]; exact set_ne k41 (by decide)
            have kp71 := keeps_set kp42 hw65 (by first | exact rfl | decide | omega | (dsimp only; omega))
            refine x_aload_n C dX0_whatIsDone_119 rfl 2 rfl rfl ?_
            refine x_get C (ci := 0) (k := 2) 87 k68 rfl in_X0 (by decide) w_297 rfl dX0_whatIsDone_120 rfl ?_
            refine x_iload_n C dX0_whatIsDone_123 rfl 4 rfl rfl ?_
            refine x_iload C dX0_whatIsDone_124 0 rfl rfl ?_
            refine x_bipush C (v := 48) dX0_whatIsDone_126 (by decide) rfl ?_
            refine x_isub C (v := ((sgW w35) - (48 : Int32))) dX0_whatIsDone_128 rfl rfl ?_
            refine x_any (fun v72 => ?_)
            obtain ⟨w73, hw74⟩ : ∃ w : va_W, w = List.set w64 89 (iA E (a 89) 24 (upd (upd f34 (nI k).toNatClampNeg (-1)) (nI k).toNatClampNeg v72)) := ⟨_, rfl⟩
            refine x_iast C 89 k70 (vp_in_nI (by omega) (by decide)) hw74.symm dX0_whatIsDone_129 rfl ?_
            have hW75 : WX (okX E a) w73 := by rw [hw74]; exact hW66.set (k := 89) rfl ⟨_, rfl⟩
            have k76 : w73[1]? = some (ob (a 1) 7 [.ref (a 2), .int (nI n2), .int v4, .int v63, .int v6]) := by rw [hw74]; exact set_ne k67 (by decide)
            have k77 : w73[87]? = some (ob (a 87) 0 [.int (nI n20), .ref (a 88), .ref (a 89), .ref (a 90), .ref (a 91), .int (nI n22)]) := by rw [hw74]; exact set_ne k68 (by decide)
            have k78 : w73[88]? = some (iA E (a 88) 24 (upd f25 (nI k).toNatClampNeg (sgW ws))) := by rw [hw74]; exact set_ne k69 (by decide)
            have k79 : w73[89]? = some (iA E (a 89) 24 (upd (upd f34 (nI k).toNatClampNeg (-1)) (nI k).toNatClampNeg v72)) := by rw [hw74]; exact set_eq k70
            have kp80 := keeps_set kp71 hw74 (by first | exact rfl | decide | omega | (dsimp only; omega))
            refine x_iconst C (v := 1) dX0_whatIsDone_130 (by decide) rfl ?_
            exact x_zret C hr hlk rfl dX0_whatIsDone_131 ⟨hW75, kp80, (Or.inr rfl)⟩
          · skip
            refine x_aload_n C dX0_whatIsDone_103 rfl 3 rfl rfl ?_
            refine x_iconst C (v := 3) dX0_whatIsDone_104 (by decide) rfl ?_
            refine x_vi C (As := [.int 3]) (rest := []) (c_fails E l a w35 hW37 (3 : Int32)) mf_X8_fails w_678 1 k38 rfl rfl rfl (Nat.le_of_ble_eq_true rfl) ⟨(Nat.le_of_ble_eq_true rfl), (Nat.le_of_ble_eq_true rfl)⟩ ⟨(Nat.le_of_ble_eq_true rfl), (Nat.le_of_ble_eq_true rfl)⟩ dX0_whatIsDone_105 rfl (fun r82 w83 h81 => ?_)
            obtain ⟨hW84, kq85, zb86⟩ := h81
            have k87 : w83[87]? = some (ob (a 87) 0 [.int (nI n20), .ref (a 88), .ref (a 89), .ref (a 90), .ref (a 91), .int (nI n22)]) := keeps_at kq85 k39 (by first | decide | omega | (dsimp only; omega))
            have k88 : w83[88]? = some (iA E (a 88) 24 (upd f25 (nI k).toNatClampNeg (sgW ws))) := keeps_at kq85 k40 (by first | decide | omega | (dsimp only; omega))
            have k89 : w83[89]? = some (iA E (a 89) 24 (upd f34 (nI k).toNatClampNeg (-1))) := keeps_at kq85 k41 (by first | decide | omega | (dsimp only; omega))
            have kp90 := keeps_tr kp42 kq85 (fun q hq => by first | omega | (dsimp only at *; omega))
            exact x_zret C hr hlk (zb_nar zb86) dX0_whatIsDone_108 ⟨hW84, kp90, zb86⟩
        · skip
          refine x_aload_n C dX0_whatIsDone_87 rfl 3 rfl rfl ?_
          refine x_iconst C (v := 1) dX0_whatIsDone_88 (by decide) rfl ?_
          refine x_vi C (As := [.int 1]) (rest := []) (c_fails E l a w35 hW37 (1 : Int32)) mf_X8_fails w_678 1 k38 rfl rfl rfl (Nat.le_of_ble_eq_true rfl) ⟨(Nat.le_of_ble_eq_true rfl), (Nat.le_of_ble_eq_true rfl)⟩ ⟨(Nat.le_of_ble_eq_true rfl), (Nat.le_of_ble_eq_true rfl)⟩ dX0_whatIsDone_89 rfl (fun r92 w93 h91 => ?_)
          obtain ⟨hW94, kq95, zb96⟩ := h91
          have k97 : w93[87]? = some (ob (a 87) 0 [.int (nI n20), .ref (a 88), .ref (a 89), .ref (a 90), .ref (a 91), .int (nI n22)]) := keeps_at kq95 k39 (by first | decide | omega | (dsimp only; omega))
          have k98 : w93[88]? = some (iA E (a 88) 24 (upd f25 (nI k).toNatClampNeg (sgW ws))) := keeps_at kq95 k40 (by first | decide | omega | (dsimp only; omega))
          have k99 : w93[89]? = some (iA E (a 89) 24 (upd f34 (nI k).toNatClampNeg (-1))) := keeps_at kq95 k41 (by first | decide | omega | (dsimp only; omega))
          have kp100 := keeps_tr kp42 kq95 (fun q hq => by first | omega | (dsimp only at *; omega))
          exact x_zret C hr hlk (zb_nar zb96) dX0_whatIsDone_92 ⟨hW94, kp100, zb96⟩
      · skip
        refine x_iconst C (v := 1) dX0_whatIsDone_71 (by decide) rfl ?_
        exact x_zret C hr hlk rfl dX0_whatIsDone_72 ⟨hW37, kp42, (Or.inr rfl)⟩
  · skip
    refine x_iload_n C dX0_whatIsDone_11 rfl 0 rfl rfl ?_
    refine x_bipush C (v := 33) dX0_whatIsDone_12 (by decide) rfl ?_
    refine x_icmp_eq C (tgt := 35) dX0_whatIsDone_14 (by decide) rfl (fun c101 => ?_) (fun c101 => ?_)
    · skip
      refine x_aload_n C dX0_whatIsDone_35 rfl 2 rfl rfl ?_
      refine x_dup C dX0_whatIsDone_36 rfl rfl ?_
      refine x_get C (ci := 7) (k := 3) 1 k1 rfl in_X8 (by decide) w_42 rfl dX0_whatIsDone_37 rfl ?_
      refine x_iconst C (v := 1) dX0_whatIsDone_40 (by decide) rfl ?_
      refine x_iadd C (v := (v5 + (1 : Int32))) dX0_whatIsDone_41 rfl rfl ?_
      refine x_any (fun v102 => ?_)
      obtain ⟨w103, hw104⟩ : ∃ w : va_W, w = List.set ws 1 (ob (a 1) 7 [.ref (a 2), .int (nI n2), .int v4, .int v102, .int v6]) := ⟨_, rfl⟩
      refine x_put C (ci := 7) (k := 3) (ty := .int) 1 k1 rfl in_X8 tyX8 tyX8_ok nmX8 (by decide) w_42 rfl rfl rfl rfl (Nat.le_of_ble_eq_true rfl) hw104.symm dX0_whatIsDone_42 rfl ?_
      have hW105 : WX (okX E a) w103 := by rw [hw104]; exact hW.set (k := 1) rfl ⟨n2, v4, v102, v6, by omega, rfl⟩
      have k106 : w103[1]? = some (ob (a 1) 7 [.ref (a 2), .int (nI n2), .int v4, .int v102, .int v6]) := by rw [hw104]; exact set_eq k1
      have kp107 := keeps_set kp0 hw104 (by first | exact rfl | decide | omega | (dsimp only; omega))
      refine x_aload_n C dX0_whatIsDone_45 rfl 1 rfl rfl ?_
      obtain ⟨_, k108, n109, n111, bn110, bn112, rfl⟩ := hW105 87 _ rfl
      refine x_get C (ci := 0) (k := 1) 87 k108 rfl in_X0 (by decide) w_296 rfl dX0_whatIsDone_46 rfl ?_
      refine x_iload_n C dX0_whatIsDone_49 rfl 3 rfl rfl ?_
      refine x_iload_n C dX0_whatIsDone_50 rfl 0 rfl rfl ?_
      obtain ⟨_, k113, f114, rfl⟩ := hW105 88 _ rfl
      obtain ⟨w115, hw116⟩ : ∃ w : va_W, w = List.set w103 88 (iA E (a 88) 24 (upd f114 (nI k).toNatClampNeg (sgW ws))) := ⟨_, rfl⟩
      refine x_iast C 88 k113 (vp_in_nI (by omega) (by decide)) hw116.symm dX0_whatIsDone_51 rfl ?_
      have hW117 : WX (okX E a) w115 := by rw [hw116]; exact hW105.set (k := 88) rfl ⟨_, rfl⟩
      have k118 : w115[1]? = some (ob (a 1) 7 [.ref (a 2), .int (nI n2), .int v4, .int v102, .int v6]) := by rw [hw116]; exact set_ne k106 (by decide)
      have k119 : w115[87]? = some (ob (a 87) 0 [.int (nI n109), .ref (a 88), .ref (a 89), .ref (a 90), .ref (a 91), .int (nI n111)]) := by rw [hw116]; exact set_ne k108 (by decide)
      have k120 : w115[88]? = some (iA E (a 88) 24 (upd f114 (nI k).toNatClampNeg (sgW ws))) := by rw [hw116]; exact set_eq k113
      have kp121 := keeps_set kp107 hw116 (by first | exact rfl | decide | omega | (dsimp only; omega))
      refine x_aload_n C dX0_whatIsDone_52 rfl 1 rfl rfl ?_
      refine x_get C (ci := 0) (k := 2) 87 k119 rfl in_X0 (by decide) w_297 rfl dX0_whatIsDone_53 rfl ?_
      refine x_iload_n C dX0_whatIsDone_56 rfl 3 rfl rfl ?_
      refine x_iconst C (v := (-1)) dX0_whatIsDone_57 (by decide) rfl ?_
      obtain ⟨_, k122, f123, rfl⟩ := hW117 89 _ rfl
      obtain ⟨w124, hw125⟩ : ∃ w : va_W, w = List.set w115 89 (iA E (a 89) 24 (upd f123 (nI k).toNatClampNeg (-1))) := ⟨_, rfl⟩
      refine x_iast C 89 k122 (vp_in_nI (by omega) (by decide)) hw125.symm dX0_whatIsDone_58 rfl ?_
      have hW126 : WX (okX E a) w124 := by rw [hw125]; exact hW117.set (k := 89) rfl ⟨_, rfl⟩
      have k127 : w124[1]? = some (ob (a 1) 7 [.ref (a 2), .int (nI n2), .int v4, .int v102, .int v6]) := by rw [hw125]; exact set_ne k118 (by decide)
      have k128 : w124[87]? = some (ob (a 87) 0 [.int (nI n109), .ref (a 88), .ref (a 89), .ref (a 90), .ref (a 91), .int (nI n111)]) := by rw [hw125]; exact set_ne k119 (by decide)
      have k129 : w124[88]? = some (iA E (a 88) 24 (upd f114 (nI k).toNatClampNeg (sgW ws))) := by rw [hw125]; exact set_ne k120 (by decide)
      have k130 : w124[89]? = some (iA E (a 89) 24 (upd f123 (nI k).toNatClampNeg (-1))) := by rw [hw125]; exact set_eq k122
      have kp131 := keeps_set kp121 hw125 (by first | exact rfl | decide | omega | (dsimp only; omega))
      refine x_iload_n C dX0_whatIsDone_59 rfl 0 rfl rfl ?_
      refine x_bipush C (v := 46) dX0_whatIsDone_60 (by decide) rfl ?_
      refine x_icmp_eq C (tgt := 71) dX0_whatIsDone_62 (by decide) rfl (fun c132 => ?_) (fun c132 => ?_)
      · skip
        refine x_iconst C (v := 1) dX0_whatIsDone_71 (by decide) rfl ?_
        exact x_zret C hr hlk rfl dX0_whatIsDone_72 ⟨hW126, kp131, (Or.inr rfl)⟩
      · skip
        refine x_iload_n C dX0_whatIsDone_65 rfl 0 rfl rfl ?_
        refine x_bipush C (v := 42) dX0_whatIsDone_66 (by decide) rfl ?_
        refine x_icmp_ne C (tgt := 73) dX0_whatIsDone_68 (by decide) rfl (fun c133 => ?_) (fun c133 => ?_)
        · skip
          refine x_aload_n C dX0_whatIsDone_73 rfl 2 rfl rfl ?_
          refine x_vi C (As := []) (rest := []) (c_signE E l a w124 hW126) mf_X8_sign w_676 1 k127 rfl rfl rfl (Nat.le_of_ble_eq_true rfl) ⟨(Nat.le_of_ble_eq_true rfl), (Nat.le_of_ble_eq_true rfl)⟩ ⟨(Nat.le_of_ble_eq_true rfl), (Nat.le_of_ble_eq_true rfl)⟩ dX0_whatIsDone_74 rfl (fun r135 w136 h134 => ?_)
          obtain ⟨hW138, x137⟩ := h134
          refine x_top x137 (x_ws hW138 ?_)
          refine x_istore C (lv' := [(4, .int (sgW w124)), (3, .int (sgW ws)), (0, .ref (a 87)), (1, .ref (a 1)), (2, .int (nI k))]) dX0_whatIsDone_77 (by decide) rfl rfl ?_
          refine x_iload C dX0_whatIsDone_79 0 rfl rfl ?_
          refine x_sn C (As := [.int (sgW w124)]) (rest := []) (c_isDigitE E l a w124 hW126 ((sgW w124))) mf_X11_isDigit n_677 rfl rfl (Nat.le_of_ble_eq_true rfl) ⟨(Nat.le_of_ble_eq_true rfl), (Nat.le_of_ble_eq_true rfl)⟩ ⟨(Nat.le_of_ble_eq_true rfl), (Nat.le_of_ble_eq_true rfl)⟩ dX0_whatIsDone_81 rfl (fun r140 w141 h139 => ?_)
          obtain ⟨hW142, zb143, x144⟩ := h139
          refine x_ws hW142 ?_
          refine x_if_ne C (tgt := 93) dX0_whatIsDone_84 (by decide) rfl (fun c145 => ?_) (fun c145 => ?_)
          · skip
            obtain ⟨dj146, dl147, dh148, de149⟩ := w_nat (a := 48) (b := 57) (by decide) (by decide) (x144 c145)
            refine x_iload C dX0_whatIsDone_93 0 rfl rfl ?_
            refine x_bipush C (v := 48) dX0_whatIsDone_95 (by decide) rfl ?_
            refine x_isub C (v := ((sgW w124) - (48 : Int32))) dX0_whatIsDone_97 rfl rfl ?_
            refine x_any (fun v150 => ?_)
            refine x_bipush C (v := 8) dX0_whatIsDone_98 (by decide) rfl ?_
            refine x_icmp_lt C (tgt := 109) dX0_whatIsDone_100 (by decide) rfl (fun c151 => ?_) (fun c151 => ?_)
            · skip
              refine x_aload_n C dX0_whatIsDone_109 rfl 3 rfl rfl ?_
              refine x_dup C dX0_whatIsDone_110 rfl rfl ?_
              refine x_get C (ci := 7) (k := 3) 1 k127 rfl in_X8 (by decide) w_42 rfl dX0_whatIsDone_111 rfl ?_
              refine x_iconst C (v := 1) dX0_whatIsDone_114 (by decide) rfl ?_
              refine x_iadd C (v := (v102 + (1 : Int32))) dX0_whatIsDone_115 rfl rfl ?_
              refine x_any (fun v152 => ?_)
              obtain ⟨w153, hw154⟩ : ∃ w : va_W, w = List.set w124 1 (ob (a 1) 7 [.ref (a 2), .int (nI n2), .int v4, .int v152, .int v6]) := ⟨_, rfl⟩
              refine x_put C (ci := 7) (k := 3) (ty := .int) 1 k127 rfl in_X8 tyX8 tyX8_ok nmX8 (by decide) w_42 rfl rfl rfl rfl (Nat.le_of_ble_eq_true rfl) hw154.symm dX0_whatIsDone_116 rfl ?_
              have hW155 : WX (okX E a) w153 := by rw [hw154]; exact hW126.set (k := 1) rfl ⟨n2, v4, v152, v6, by omega, rfl⟩
              have k156 : w153[1]? = some (ob (a 1) 7 [.ref (a 2), .int (nI n2), .int v4, .int v152, .int v6]) := by rw [hw154]; exact set_eq k127
              have k157 : w153[87]? = some (ob (a 87) 0 [.int (nI n109), .ref (a 88), .ref (a 89), .ref (a 90), .ref (a 91), .int (nI n111)]) := by rw [hw154]; exact set_ne k128 (by decide)
              have k158 : w153[88]? = some (iA E (a 88) 24 (upd f114 (nI k).toNatClampNeg (sgW ws))) := by rw [hw154]; exact set_ne k129 (by decide)
              have k159 : w153[89]? = some (iA E (a 89) 24 (upd f123 (nI k).toNatClampNeg (-1))) := by rw [hw154]; exact set_ne k130 (by decide)
              have kp160 := keeps_set kp131 hw154 (by first | exact rfl | decide | omega | (dsimp only; omega))
              refine x_aload_n C dX0_whatIsDone_119 rfl 2 rfl rfl ?_
              refine x_get C (ci := 0) (k := 2) 87 k157 rfl in_X0 (by decide) w_297 rfl dX0_whatIsDone_120 rfl ?_
              refine x_iload_n C dX0_whatIsDone_123 rfl 4 rfl rfl ?_
              refine x_iload C dX0_whatIsDone_124 0 rfl rfl ?_
              refine x_bipush C (v := 48) dX0_whatIsDone_126 (by decide) rfl ?_
              refine x_isub C (v := ((sgW w124) - (48 : Int32))) dX0_whatIsDone_128 rfl rfl ?_
              refine x_any (fun v161 => ?_)
              obtain ⟨w162, hw163⟩ : ∃ w : va_W, w = List.set w153 89 (iA E (a 89) 24 (upd (upd f123 (nI k).toNatClampNeg (-1)) (nI k).toNatClampNeg v161)) := ⟨_, rfl⟩
              refine x_iast C 89 k159 (vp_in_nI (by omega) (by decide)) hw163.symm dX0_whatIsDone_129 rfl ?_
              have hW164 : WX (okX E a) w162 := by rw [hw163]; exact hW155.set (k := 89) rfl ⟨_, rfl⟩
              have k165 : w162[1]? = some (ob (a 1) 7 [.ref (a 2), .int (nI n2), .int v4, .int v152, .int v6]) := by rw [hw163]; exact set_ne k156 (by decide)
              have k166 : w162[87]? = some (ob (a 87) 0 [.int (nI n109), .ref (a 88), .ref (a 89), .ref (a 90), .ref (a 91), .int (nI n111)]) := by rw [hw163]; exact set_ne k157 (by decide)
              have k167 : w162[88]? = some (iA E (a 88) 24 (upd f114 (nI k).toNatClampNeg (sgW ws))) := by rw [hw163]; exact set_ne k158 (by decide)
              have k168 : w162[89]? = some (iA E (a 89) 24 (upd (upd f123 (nI k).toNatClampNeg (-1)) (nI k).toNatClampNeg v161)) := by rw [hw163]; exact set_eq k159
              have kp169 := keeps_set kp160 hw163 (by first | exact rfl | decide | omega | (dsimp only; omega))
              refine x_iconst C (v := 1) dX0_whatIsDone_130 (by decide) rfl ?_
              exact x_zret C hr hlk rfl dX0_whatIsDone_131 ⟨hW164, kp169, (Or.inr rfl)⟩
            · skip
              refine x_aload_n C dX0_whatIsDone_103 rfl 3 rfl rfl ?_
              refine x_iconst C (v := 3) dX0_whatIsDone_104 (by decide) rfl ?_
              refine x_vi C (As := [.int 3]) (rest := []) (c_fails E l a w124 hW126 (3 : Int32)) mf_X8_fails w_678 1 k127 rfl rfl rfl (Nat.le_of_ble_eq_true rfl) ⟨(Nat.le_of_ble_eq_true rfl), (Nat.le_of_ble_eq_true rfl)⟩ ⟨(Nat.le_of_ble_eq_true rfl), (Nat.le_of_ble_eq_true rfl)⟩ dX0_whatIsDone_105 rfl (fun r171 w172 h170 => ?_)
              obtain ⟨hW173, kq174, zb175⟩ := h170
              have k176 : w172[87]? = some (ob (a 87) 0 [.int (nI n109), .ref (a 88), .ref (a 89), .ref (a 90), .ref (a 91), .int (nI n111)]) := keeps_at kq174 k128 (by first | decide | omega | (dsimp only; omega))
              have k177 : w172[88]? = some (iA E (a 88) 24 (upd f114 (nI k).toNatClampNeg (sgW ws))) := keeps_at kq174 k129 (by first | decide | omega | (dsimp only; omega))
              have k178 : w172[89]? = some (iA E (a 89) 24 (upd f123 (nI k).toNatClampNeg (-1))) := keeps_at kq174 k130 (by first | decide | omega | (dsimp only; omega))
              have kp179 := keeps_tr kp131 kq174 (fun q hq => by first | omega | (dsimp only at *; omega))
              exact x_zret C hr hlk (zb_nar zb175) dX0_whatIsDone_108 ⟨hW173, kp179, zb175⟩
          · skip
            refine x_aload_n C dX0_whatIsDone_87 rfl 3 rfl rfl ?_
            refine x_iconst C (v := 1) dX0_whatIsDone_88 (by decide) rfl ?_
            refine x_vi C (As := [.int 1]) (rest := []) (c_fails E l a w124 hW126 (1 : Int32)) mf_X8_fails w_678 1 k127 rfl rfl rfl (Nat.le_of_ble_eq_true rfl) ⟨(Nat.le_of_ble_eq_true rfl), (Nat.le_of_ble_eq_true rfl)⟩ ⟨(Nat.le_of_ble_eq_true rfl), (Nat.le_of_ble_eq_true rfl)⟩ dX0_whatIsDone_89 rfl (fun r181 w182 h180 => ?_)
            obtain ⟨hW183, kq184, zb185⟩ := h180
            have k186 : w182[87]? = some (ob (a 87) 0 [.int (nI n109), .ref (a 88), .ref (a 89), .ref (a 90), .ref (a 91), .int (nI n111)]) := keeps_at kq184 k128 (by first | decide | omega | (dsimp only; omega))
            have k187 : w182[88]? = some (iA E (a 88) 24 (upd f114 (nI k).toNatClampNeg (sgW ws))) := keeps_at kq184 k129 (by first | decide | omega | (dsimp only; omega))
            have k188 : w182[89]? = some (iA E (a 89) 24 (upd f123 (nI k).toNatClampNeg (-1))) := keeps_at kq184 k130 (by first | decide | omega | (dsimp only; omega))
            have kp189 := keeps_tr kp131 kq184 (fun q hq => by first | omega | (dsimp only at *; omega))
            exact x_zret C hr hlk (zb_nar zb185) dX0_whatIsDone_92 ⟨hW183, kp189, zb185⟩
        · skip
          refine x_iconst C (v := 1) dX0_whatIsDone_71 (by decide) rfl ?_
          exact x_zret C hr hlk rfl dX0_whatIsDone_72 ⟨hW126, kp131, (Or.inr rfl)⟩
    · skip
      refine x_iload_n C dX0_whatIsDone_17 rfl 0 rfl rfl ?_
      refine x_bipush C (v := 46) dX0_whatIsDone_18 (by decide) rfl ?_
      refine x_icmp_eq C (tgt := 35) dX0_whatIsDone_20 (by decide) rfl (fun c190 => ?_) (fun c190 => ?_)
      · skip
        refine x_aload_n C dX0_whatIsDone_35 rfl 2 rfl rfl ?_
        refine x_dup C dX0_whatIsDone_36 rfl rfl ?_
        refine x_get C (ci := 7) (k := 3) 1 k1 rfl in_X8 (by decide) w_42 rfl dX0_whatIsDone_37 rfl ?_
        refine x_iconst C (v := 1) dX0_whatIsDone_40 (by decide) rfl ?_
        refine x_iadd C (v := (v5 + (1 : Int32))) dX0_whatIsDone_41 rfl rfl ?_
        refine x_any (fun v191 => ?_)
        obtain ⟨w192, hw193⟩ : ∃ w : va_W, w = List.set ws 1 (ob (a 1) 7 [.ref (a 2), .int (nI n2), .int v4, .int v191, .int v6]) := ⟨_, rfl⟩
        refine x_put C (ci := 7) (k := 3) (ty := .int) 1 k1 rfl in_X8 tyX8 tyX8_ok nmX8 (by decide) w_42 rfl rfl rfl rfl (Nat.le_of_ble_eq_true rfl) hw193.symm dX0_whatIsDone_42 rfl ?_
        have hW194 : WX (okX E a) w192 := by rw [hw193]; exact hW.set (k := 1) rfl ⟨n2, v4, v191, v6, by omega, rfl⟩
        have k195 : w192[1]? = some (ob (a 1) 7 [.ref (a 2), .int (nI n2), .int v4, .int v191, .int v6]) := by rw [hw193]; exact set_eq k1
        have kp196 := keeps_set kp0 hw193 (by first | exact rfl | decide | omega | (dsimp only; omega))
        refine x_aload_n C dX0_whatIsDone_45 rfl 1 rfl rfl ?_
        obtain ⟨_, k197, n198, n200, bn199, bn201, rfl⟩ := hW194 87 _ rfl
        refine x_get C (ci := 0) (k := 1) 87 k197 rfl in_X0 (by decide) w_296 rfl dX0_whatIsDone_46 rfl ?_
        refine x_iload_n C dX0_whatIsDone_49 rfl 3 rfl rfl ?_
        refine x_iload_n C dX0_whatIsDone_50 rfl 0 rfl rfl ?_
        obtain ⟨_, k202, f203, rfl⟩ := hW194 88 _ rfl
        obtain ⟨w204, hw205⟩ : ∃ w : va_W, w = List.set w192 88 (iA E (a 88) 24 (upd f203 (nI k).toNatClampNeg (sgW ws))) := ⟨_, rfl⟩
        refine x_iast C 88 k202 (vp_in_nI (by omega) (by decide)) hw205.symm dX0_whatIsDone_51 rfl ?_
        have hW206 : WX (okX E a) w204 := by rw [hw205]; exact hW194.set (k := 88) rfl ⟨_, rfl⟩
        have k207 : w204[1]? = some (ob (a 1) 7 [.ref (a 2), .int (nI n2), .int v4, .int v191, .int v6]) := by rw [hw205]; exact set_ne k195 (by decide)
        have k208 : w204[87]? = some (ob (a 87) 0 [.int (nI n198), .ref (a 88), .ref (a 89), .ref (a 90), .ref (a 91), .int (nI n200)]) := by rw [hw205]; exact set_ne k197 (by decide)
        have k209 : w204[88]? = some (iA E (a 88) 24 (upd f203 (nI k).toNatClampNeg (sgW ws))) := by rw [hw205]; exact set_eq k202
        have kp210 := keeps_set kp196 hw205 (by first | exact rfl | decide | omega | (dsimp only; omega))
        refine x_aload_n C dX0_whatIsDone_52 rfl 1 rfl rfl ?_
        refine x_get C (ci := 0) (k := 2) 87 k208 rfl in_X0 (by decide) w_297 rfl dX0_whatIsDone_53 rfl ?_
        refine x_iload_n C dX0_whatIsDone_56 rfl 3 rfl rfl ?_
        refine x_iconst C (v := (-1)) dX0_whatIsDone_57 (by decide) rfl ?_
        obtain ⟨_, k211, f212, rfl⟩ := hW206 89 _ rfl
        obtain ⟨w213, hw214⟩ : ∃ w : va_W, w = List.set w204 89 (iA E (a 89) 24 (upd f212 (nI k).toNatClampNeg (-1))) := ⟨_, rfl⟩
        refine x_iast C 89 k211 (vp_in_nI (by omega) (by decide)) hw214.symm dX0_whatIsDone_58 rfl ?_
        have hW215 : WX (okX E a) w213 := by rw [hw214]; exact hW206.set (k := 89) rfl ⟨_, rfl⟩
        have k216 : w213[1]? = some (ob (a 1) 7 [.ref (a 2), .int (nI n2), .int v4, .int v191, .int v6]) := by rw [hw214]; exact set_ne k207 (by decide)
        have k217 : w213[87]? = some (ob (a 87) 0 [.int (nI n198), .ref (a 88), .ref (a 89), .ref (a 90), .ref (a 91), .int (nI n200)]) := by rw [hw214]; exact set_ne k208 (by decide)
        have k218 : w213[88]? = some (iA E (a 88) 24 (upd f203 (nI k).toNatClampNeg (sgW ws))) := by rw [hw214]; exact set_ne k209 (by decide)
        have k219 : w213[89]? = some (iA E (a 89) 24 (upd f212 (nI k).toNatClampNeg (-1))) := by rw [hw214]; exact set_eq k211
        have kp220 := keeps_set kp210 hw214 (by first | exact rfl | decide | omega | (dsimp only; omega))
        refine x_iload_n C dX0_whatIsDone_59 rfl 0 rfl rfl ?_
        refine x_bipush C (v := 46) dX0_whatIsDone_60 (by decide) rfl ?_
        refine x_icmp_eq C (tgt := 71) dX0_whatIsDone_62 (by decide) rfl (fun c221 => ?_) (fun c221 => ?_)
        · skip
          refine x_iconst C (v := 1) dX0_whatIsDone_71 (by decide) rfl ?_
          exact x_zret C hr hlk rfl dX0_whatIsDone_72 ⟨hW215, kp220, (Or.inr rfl)⟩
        · skip
          refine x_iload_n C dX0_whatIsDone_65 rfl 0 rfl rfl ?_
          refine x_bipush C (v := 42) dX0_whatIsDone_66 (by decide) rfl ?_
          refine x_icmp_ne C (tgt := 73) dX0_whatIsDone_68 (by decide) rfl (fun c222 => ?_) (fun c222 => ?_)
          · skip
            refine x_aload_n C dX0_whatIsDone_73 rfl 2 rfl rfl ?_
            refine x_vi C (As := []) (rest := []) (c_signE E l a w213 hW215) mf_X8_sign w_676 1 k216 rfl rfl rfl (Nat.le_of_ble_eq_true rfl) ⟨(Nat.le_of_ble_eq_true rfl), (Nat.le_of_ble_eq_true rfl)⟩ ⟨(Nat.le_of_ble_eq_true rfl), (Nat.le_of_ble_eq_true rfl)⟩ dX0_whatIsDone_74 rfl (fun r224 w225 h223 => ?_)
            obtain ⟨hW227, x226⟩ := h223
            refine x_top x226 (x_ws hW227 ?_)
            refine x_istore C (lv' := [(4, .int (sgW w213)), (3, .int (sgW ws)), (0, .ref (a 87)), (1, .ref (a 1)), (2, .int (nI k))]) dX0_whatIsDone_77 (by decide) rfl rfl ?_
            refine x_iload C dX0_whatIsDone_79 0 rfl rfl ?_
            refine x_sn C (As := [.int (sgW w213)]) (rest := []) (c_isDigitE E l a w213 hW215 ((sgW w213))) mf_X11_isDigit n_677 rfl rfl (Nat.le_of_ble_eq_true rfl) ⟨(Nat.le_of_ble_eq_true rfl), (Nat.le_of_ble_eq_true rfl)⟩ ⟨(Nat.le_of_ble_eq_true rfl), (Nat.le_of_ble_eq_true rfl)⟩ dX0_whatIsDone_81 rfl (fun r229 w230 h228 => ?_)
            obtain ⟨hW231, zb232, x233⟩ := h228
            refine x_ws hW231 ?_
            refine x_if_ne C (tgt := 93) dX0_whatIsDone_84 (by decide) rfl (fun c234 => ?_) (fun c234 => ?_)
            · skip
              obtain ⟨dj235, dl236, dh237, de238⟩ := w_nat (a := 48) (b := 57) (by decide) (by decide) (x233 c234)
              refine x_iload C dX0_whatIsDone_93 0 rfl rfl ?_
              refine x_bipush C (v := 48) dX0_whatIsDone_95 (by decide) rfl ?_
              refine x_isub C (v := ((sgW w213) - (48 : Int32))) dX0_whatIsDone_97 rfl rfl ?_
              refine x_any (fun v239 => ?_)
              refine x_bipush C (v := 8) dX0_whatIsDone_98 (by decide) rfl ?_
              refine x_icmp_lt C (tgt := 109) dX0_whatIsDone_100 (by decide) rfl (fun c240 => ?_) (fun c240 => ?_)
              · skip
                refine x_aload_n C dX0_whatIsDone_109 rfl 3 rfl rfl ?_
                refine x_dup C dX0_whatIsDone_110 rfl rfl ?_
                refine x_get C (ci := 7) (k := 3) 1 k216 rfl in_X8 (by decide) w_42 rfl dX0_whatIsDone_111 rfl ?_
                refine x_iconst C (v := 1) dX0_whatIsDone_114 (by decide) rfl ?_
                refine x_iadd C (v := (v191 + (1 : Int32))) dX0_whatIsDone_115 rfl rfl ?_
                refine x_any (fun v241 => ?_)
                obtain ⟨w242, hw243⟩ : ∃ w : va_W, w = List.set w213 1 (ob (a 1) 7 [.ref (a 2), .int (nI n2), .int v4, .int v241, .int v6]) := ⟨_, rfl⟩
                refine x_put C (ci := 7) (k := 3) (ty := .int) 1 k216 rfl in_X8 tyX8 tyX8_ok nmX8 (by decide) w_42 rfl rfl rfl rfl (Nat.le_of_ble_eq_true rfl) hw243.symm dX0_whatIsDone_116 rfl ?_
                have hW244 : WX (okX E a) w242 := by rw [hw243]; exact hW215.set (k := 1) rfl ⟨n2, v4, v241, v6, by omega, rfl⟩
                have k245 : w242[1]? = some (ob (a 1) 7 [.ref (a 2), .int (nI n2), .int v4, .int v241, .int v6]) := by rw [hw243]; exact set_eq k216
                have k246 : w242[87]? = some (ob (a 87) 0 [.int (nI n198), .ref (a 88), .ref (a 89), .ref (a 90), .ref (a 91), .int (nI n200)]) := by rw [hw243]; exact set_ne k217 (by decide)
                have k247 : w242[88]? = some (iA E (a 88) 24 (upd f203 (nI k).toNatClampNeg (sgW ws))) := by rw [hw243]; exact set_ne k218 (by decide)
                have k248 : w242[89]? = some (iA E (a 89) 24 (upd f212 (nI k).toNatClampNeg (-1))) := by rw [hw243]; exact set_ne k219 (by decide)
                have kp249 := keeps_set kp220 hw243 (by first | exact rfl | decide | omega | (dsimp only; omega))
                refine x_aload_n C dX0_whatIsDone_119 rfl 2 rfl rfl ?_
                refine x_get C (ci := 0) (k := 2) 87 k246 rfl in_X0 (by decide) w_297 rfl dX0_whatIsDone_120 rfl ?_
                refine x_iload_n C dX0_whatIsDone_123 rfl 4 rfl rfl ?_
                refine x_iload C dX0_whatIsDone_124 0 rfl rfl ?_
                refine x_bipush C (v := 48) dX0_whatIsDone_126 (by decide) rfl ?_
                refine x_isub C (v := ((sgW w213) - (48 : Int32))) dX0_whatIsDone_128 rfl rfl ?_
                refine x_any (fun v250 => ?_)
                obtain ⟨w251, hw252⟩ : ∃ w : va_W, w = List.set w242 89 (iA E (a 89) 24 (upd (upd f212 (nI k).toNatClampNeg (-1)) (nI k).toNatClampNeg v250)) := ⟨_, rfl⟩
                refine x_iast C 89 k248 (vp_in_nI (by omega) (by decide)) hw252.symm dX0_whatIsDone_129 rfl ?_
                have hW253 : WX (okX E a) w251 := by rw [hw252]; exact hW244.set (k := 89) rfl ⟨_, rfl⟩
                have k254 : w251[1]? = some (ob (a 1) 7 [.ref (a 2), .int (nI n2), .int v4, .int v241, .int v6]) := by rw [hw252]; exact set_ne k245 (by decide)
                have k255 : w251[87]? = some (ob (a 87) 0 [.int (nI n198), .ref (a 88), .ref (a 89), .ref (a 90), .ref (a 91), .int (nI n200)]) := by rw [hw252]; exact set_ne k246 (by decide)
                have k256 : w251[88]? = some (iA E (a 88) 24 (upd f203 (nI k).toNatClampNeg (sgW ws))) := by rw [hw252]; exact set_ne k247 (by decide)
                have k257 : w251[89]? = some (iA E (a 89) 24 (upd (upd f212 (nI k).toNatClampNeg (-1)) (nI k).toNatClampNeg v250)) := by rw [hw252]; exact set_eq k248
                have kp258 := keeps_set kp249 hw252 (by first | exact rfl | decide | omega | (dsimp only; omega))
                refine x_iconst C (v := 1) dX0_whatIsDone_130 (by decide) rfl ?_
                exact x_zret C hr hlk rfl dX0_whatIsDone_131 ⟨hW253, kp258, (Or.inr rfl)⟩
              · skip
                refine x_aload_n C dX0_whatIsDone_103 rfl 3 rfl rfl ?_
                refine x_iconst C (v := 3) dX0_whatIsDone_104 (by decide) rfl ?_
                refine x_vi C (As := [.int 3]) (rest := []) (c_fails E l a w213 hW215 (3 : Int32)) mf_X8_fails w_678 1 k216 rfl rfl rfl (Nat.le_of_ble_eq_true rfl) ⟨(Nat.le_of_ble_eq_true rfl), (Nat.le_of_ble_eq_true rfl)⟩ ⟨(Nat.le_of_ble_eq_true rfl), (Nat.le_of_ble_eq_true rfl)⟩ dX0_whatIsDone_105 rfl (fun r260 w261 h259 => ?_)
                obtain ⟨hW262, kq263, zb264⟩ := h259
                have k265 : w261[87]? = some (ob (a 87) 0 [.int (nI n198), .ref (a 88), .ref (a 89), .ref (a 90), .ref (a 91), .int (nI n200)]) := keeps_at kq263 k217 (by first | decide | omega | (dsimp only; omega))
                have k266 : w261[88]? = some (iA E (a 88) 24 (upd f203 (nI k).toNatClampNeg (sgW ws))) := keeps_at kq263 k218 (by first | decide | omega | (dsimp only; omega))
                have k267 : w261[89]? = some (iA E (a 89) 24 (upd f212 (nI k).toNatClampNeg (-1))) := keeps_at kq263 k219 (by first | decide | omega | (dsimp only; omega))
                have kp268 := keeps_tr kp220 kq263 (fun q hq => by first | omega | (dsimp only at *; omega))
                exact x_zret C hr hlk (zb_nar zb264) dX0_whatIsDone_108 ⟨hW262, kp268, zb264⟩
            · skip
              refine x_aload_n C dX0_whatIsDone_87 rfl 3 rfl rfl ?_
              refine x_iconst C (v := 1) dX0_whatIsDone_88 (by decide) rfl ?_
              refine x_vi C (As := [.int 1]) (rest := []) (c_fails E l a w213 hW215 (1 : Int32)) mf_X8_fails w_678 1 k216 rfl rfl rfl (Nat.le_of_ble_eq_true rfl) ⟨(Nat.le_of_ble_eq_true rfl), (Nat.le_of_ble_eq_true rfl)⟩ ⟨(Nat.le_of_ble_eq_true rfl), (Nat.le_of_ble_eq_true rfl)⟩ dX0_whatIsDone_89 rfl (fun r270 w271 h269 => ?_)
              obtain ⟨hW272, kq273, zb274⟩ := h269
              have k275 : w271[87]? = some (ob (a 87) 0 [.int (nI n198), .ref (a 88), .ref (a 89), .ref (a 90), .ref (a 91), .int (nI n200)]) := keeps_at kq273 k217 (by first | decide | omega | (dsimp only; omega))
              have k276 : w271[88]? = some (iA E (a 88) 24 (upd f203 (nI k).toNatClampNeg (sgW ws))) := keeps_at kq273 k218 (by first | decide | omega | (dsimp only; omega))
              have k277 : w271[89]? = some (iA E (a 89) 24 (upd f212 (nI k).toNatClampNeg (-1))) := keeps_at kq273 k219 (by first | decide | omega | (dsimp only; omega))
              have kp278 := keeps_tr kp220 kq273 (fun q hq => by first | omega | (dsimp only at *; omega))
              exact x_zret C hr hlk (zb_nar zb274) dX0_whatIsDone_92 ⟨hW272, kp278, zb274⟩
          · skip
            refine x_iconst C (v := 1) dX0_whatIsDone_71 (by decide) rfl ?_
            exact x_zret C hr hlk rfl dX0_whatIsDone_72 ⟨hW215, kp220, (Or.inr rfl)⟩
      · skip
        refine x_iload_n C dX0_whatIsDone_23 rfl 0 rfl rfl ?_
        refine x_bipush C (v := 42) dX0_whatIsDone_24 (by decide) rfl ?_
        refine x_icmp_eq C (tgt := 35) dX0_whatIsDone_26 (by decide) rfl (fun c279 => ?_) (fun c279 => ?_)
        · skip
          refine x_aload_n C dX0_whatIsDone_35 rfl 2 rfl rfl ?_
          refine x_dup C dX0_whatIsDone_36 rfl rfl ?_
          refine x_get C (ci := 7) (k := 3) 1 k1 rfl in_X8 (by decide) w_42 rfl dX0_whatIsDone_37 rfl ?_
          refine x_iconst C (v := 1) dX0_whatIsDone_40 (by decide) rfl ?_
          refine x_iadd C (v := (v5 + (1 : Int32))) dX0_whatIsDone_41 rfl rfl ?_
          refine x_any (fun v280 => ?_)
          obtain ⟨w281, hw282⟩ : ∃ w : va_W, w = List.set ws 1 (ob (a 1) 7 [.ref (a 2), .int (nI n2), .int v4, .int v280, .int v6]) := ⟨_, rfl⟩
          refine x_put C (ci := 7) (k := 3) (ty := .int) 1 k1 rfl in_X8 tyX8 tyX8_ok nmX8 (by decide) w_42 rfl rfl rfl rfl (Nat.le_of_ble_eq_true rfl) hw282.symm dX0_whatIsDone_42 rfl ?_
          have hW283 : WX (okX E a) w281 := by rw [hw282]; exact hW.set (k := 1) rfl ⟨n2, v4, v280, v6, by omega, rfl⟩
          have k284 : w281[1]? = some (ob (a 1) 7 [.ref (a 2), .int (nI n2), .int v4, .int v280, .int v6]) := by rw [hw282]; exact set_eq k1
          have kp285 := keeps_set kp0 hw282 (by first | exact rfl | decide | omega | (dsimp only; omega))
          refine x_aload_n C dX0_whatIsDone_45 rfl 1 rfl rfl ?_
          obtain ⟨_, k286, n287, n289, bn288, bn290, rfl⟩ := hW283 87 _ rfl
          refine x_get C (ci := 0) (k := 1) 87 k286 rfl in_X0 (by decide) w_296 rfl dX0_whatIsDone_46 rfl ?_
          refine x_iload_n C dX0_whatIsDone_49 rfl 3 rfl rfl ?_
          refine x_iload_n C dX0_whatIsDone_50 rfl 0 rfl rfl ?_
          obtain ⟨_, k291, f292, rfl⟩ := hW283 88 _ rfl
          obtain ⟨w293, hw294⟩ : ∃ w : va_W, w = List.set w281 88 (iA E (a 88) 24 (upd f292 (nI k).toNatClampNeg (sgW ws))) := ⟨_, rfl⟩
          refine x_iast C 88 k291 (vp_in_nI (by omega) (by decide)) hw294.symm dX0_whatIsDone_51 rfl ?_
          have hW295 : WX (okX E a) w293 := by rw [hw294]; exact hW283.set (k := 88) rfl ⟨_, rfl⟩
          have k296 : w293[1]? = some (ob (a 1) 7 [.ref (a 2), .int (nI n2), .int v4, .int v280, .int v6]) := by rw [hw294]; exact set_ne k284 (by decide)
          have k297 : w293[87]? = some (ob (a 87) 0 [.int (nI n287), .ref (a 88), .ref (a 89), .ref (a 90), .ref (a 91), .int (nI n289)]) := by rw [hw294]; exact set_ne k286 (by decide)
          have k298 : w293[88]? = some (iA E (a 88) 24 (upd f292 (nI k).toNatClampNeg (sgW ws))) := by rw [hw294]; exact set_eq k291
          have kp299 := keeps_set kp285 hw294 (by first | exact rfl | decide | omega | (dsimp only; omega))
          refine x_aload_n C dX0_whatIsDone_52 rfl 1 rfl rfl ?_
          refine x_get C (ci := 0) (k := 2) 87 k297 rfl in_X0 (by decide) w_297 rfl dX0_whatIsDone_53 rfl ?_
          refine x_iload_n C dX0_whatIsDone_56 rfl 3 rfl rfl ?_
          refine x_iconst C (v := (-1)) dX0_whatIsDone_57 (by decide) rfl ?_
          obtain ⟨_, k300, f301, rfl⟩ := hW295 89 _ rfl
          obtain ⟨w302, hw303⟩ : ∃ w : va_W, w = List.set w293 89 (iA E (a 89) 24 (upd f301 (nI k).toNatClampNeg (-1))) := ⟨_, rfl⟩
          refine x_iast C 89 k300 (vp_in_nI (by omega) (by decide)) hw303.symm dX0_whatIsDone_58 rfl ?_
          have hW304 : WX (okX E a) w302 := by rw [hw303]; exact hW295.set (k := 89) rfl ⟨_, rfl⟩
          have k305 : w302[1]? = some (ob (a 1) 7 [.ref (a 2), .int (nI n2), .int v4, .int v280, .int v6]) := by rw [hw303]; exact set_ne k296 (by decide)
          have k306 : w302[87]? = some (ob (a 87) 0 [.int (nI n287), .ref (a 88), .ref (a 89), .ref (a 90), .ref (a 91), .int (nI n289)]) := by rw [hw303]; exact set_ne k297 (by decide)
          have k307 : w302[88]? = some (iA E (a 88) 24 (upd f292 (nI k).toNatClampNeg (sgW ws))) := by rw [hw303]; exact set_ne k298 (by decide)
          have k308 : w302[89]? = some (iA E (a 89) 24 (upd f301 (nI k).toNatClampNeg (-1))) := by rw [hw303]; exact set_eq k300
          have kp309 := keeps_set kp299 hw303 (by first | exact rfl | decide | omega | (dsimp only; omega))
          refine x_iload_n C dX0_whatIsDone_59 rfl 0 rfl rfl ?_
          refine x_bipush C (v := 46) dX0_whatIsDone_60 (by decide) rfl ?_
          refine x_icmp_eq C (tgt := 71) dX0_whatIsDone_62 (by decide) rfl (fun c310 => ?_) (fun c310 => ?_)
          · skip
            refine x_iconst C (v := 1) dX0_whatIsDone_71 (by decide) rfl ?_
            exact x_zret C hr hlk rfl dX0_whatIsDone_72 ⟨hW304, kp309, (Or.inr rfl)⟩
          · skip
            refine x_iload_n C dX0_whatIsDone_65 rfl 0 rfl rfl ?_
            refine x_bipush C (v := 42) dX0_whatIsDone_66 (by decide) rfl ?_
            refine x_icmp_ne C (tgt := 73) dX0_whatIsDone_68 (by decide) rfl (fun c311 => ?_) (fun c311 => ?_)
            · skip
              refine x_aload_n C dX0_whatIsDone_73 rfl 2 rfl rfl ?_
              refine x_vi C (As := []) (rest := []) (c_signE E l a w302 hW304) mf_X8_sign w_676 1 k305 rfl rfl rfl (Nat.le_of_ble_eq_true rfl) ⟨(Nat.le_of_ble_eq_true rfl), (Nat.le_of_ble_eq_true rfl)⟩ ⟨(Nat.le_of_ble_eq_true rfl), (Nat.le_of_ble_eq_true rfl)⟩ dX0_whatIsDone_74 rfl (fun r313 w314 h312 => ?_)
              obtain ⟨hW316, x315⟩ := h312
              refine x_top x315 (x_ws hW316 ?_)
              refine x_istore C (lv' := [(4, .int (sgW w302)), (3, .int (sgW ws)), (0, .ref (a 87)), (1, .ref (a 1)), (2, .int (nI k))]) dX0_whatIsDone_77 (by decide) rfl rfl ?_
              refine x_iload C dX0_whatIsDone_79 0 rfl rfl ?_
              refine x_sn C (As := [.int (sgW w302)]) (rest := []) (c_isDigitE E l a w302 hW304 ((sgW w302))) mf_X11_isDigit n_677 rfl rfl (Nat.le_of_ble_eq_true rfl) ⟨(Nat.le_of_ble_eq_true rfl), (Nat.le_of_ble_eq_true rfl)⟩ ⟨(Nat.le_of_ble_eq_true rfl), (Nat.le_of_ble_eq_true rfl)⟩ dX0_whatIsDone_81 rfl (fun r318 w319 h317 => ?_)
              obtain ⟨hW320, zb321, x322⟩ := h317
              refine x_ws hW320 ?_
              refine x_if_ne C (tgt := 93) dX0_whatIsDone_84 (by decide) rfl (fun c323 => ?_) (fun c323 => ?_)
              · skip
                obtain ⟨dj324, dl325, dh326, de327⟩ := w_nat (a := 48) (b := 57) (by decide) (by decide) (x322 c323)
                refine x_iload C dX0_whatIsDone_93 0 rfl rfl ?_
                refine x_bipush C (v := 48) dX0_whatIsDone_95 (by decide) rfl ?_
                refine x_isub C (v := ((sgW w302) - (48 : Int32))) dX0_whatIsDone_97 rfl rfl ?_
                refine x_any (fun v328 => ?_)
                refine x_bipush C (v := 8) dX0_whatIsDone_98 (by decide) rfl ?_
                refine x_icmp_lt C (tgt := 109) dX0_whatIsDone_100 (by decide) rfl (fun c329 => ?_) (fun c329 => ?_)
                · skip
                  refine x_aload_n C dX0_whatIsDone_109 rfl 3 rfl rfl ?_
                  refine x_dup C dX0_whatIsDone_110 rfl rfl ?_
                  refine x_get C (ci := 7) (k := 3) 1 k305 rfl in_X8 (by decide) w_42 rfl dX0_whatIsDone_111 rfl ?_
                  refine x_iconst C (v := 1) dX0_whatIsDone_114 (by decide) rfl ?_
                  refine x_iadd C (v := (v280 + (1 : Int32))) dX0_whatIsDone_115 rfl rfl ?_
                  refine x_any (fun v330 => ?_)
                  obtain ⟨w331, hw332⟩ : ∃ w : va_W, w = List.set w302 1 (ob (a 1) 7 [.ref (a 2), .int (nI n2), .int v4, .int v330, .int v6]) := ⟨_, rfl⟩
                  refine x_put C (ci := 7) (k := 3) (ty := .int) 1 k305 rfl in_X8 tyX8 tyX8_ok nmX8 (by decide) w_42 rfl rfl rfl rfl (Nat.le_of_ble_eq_true rfl) hw332.symm dX0_whatIsDone_116 rfl ?_
                  have hW333 : WX (okX E a) w331 := by rw [hw332]; exact hW304.set (k := 1) rfl ⟨n2, v4, v330, v6, by omega, rfl⟩
                  have k334 : w331[1]? = some (ob (a 1) 7 [.ref (a 2), .int (nI n2), .int v4, .int v330, .int v6]) := by rw [hw332]; exact set_eq k305
                  have k335 : w331[87]? = some (ob (a 87) 0 [.int (nI n287), .ref (a 88), .ref (a 89), .ref (a 90), .ref (a 91), .int (nI n289)]) := by rw [hw332]; exact set_ne k306 (by decide)
                  have k336 : w331[88]? = some (iA E (a 88) 24 (upd f292 (nI k).toNatClampNeg (sgW ws))) := by rw [hw332]; exact set_ne k307 (by decide)
                  have k337 : w331[89]? = some (iA E (a 89) 24 (upd f301 (nI k).toNatClampNeg (-1))) := by rw [hw332]; exact set_ne k308 (by decide)
                  have kp338 := keeps_set kp309 hw332 (by first | exact rfl | decide | omega | (dsimp only; omega))
                  refine x_aload_n C dX0_whatIsDone_119 rfl 2 rfl rfl ?_
                  refine x_get C (ci := 0) (k := 2) 87 k335 rfl in_X0 (by decide) w_297 rfl dX0_whatIsDone_120 rfl ?_
                  refine x_iload_n C dX0_whatIsDone_123 rfl 4 rfl rfl ?_
                  refine x_iload C dX0_whatIsDone_124 0 rfl rfl ?_
                  refine x_bipush C (v := 48) dX0_whatIsDone_126 (by decide) rfl ?_
                  refine x_isub C (v := ((sgW w302) - (48 : Int32))) dX0_whatIsDone_128 rfl rfl ?_
                  refine x_any (fun v339 => ?_)
                  obtain ⟨w340, hw341⟩ : ∃ w : va_W, w = List.set w331 89 (iA E (a 89) 24 (upd (upd f301 (nI k).toNatClampNeg (-1)) (nI k).toNatClampNeg v339)) := ⟨_, rfl⟩
                  refine x_iast C 89 k337 (vp_in_nI (by omega) (by decide)) hw341.symm dX0_whatIsDone_129 rfl ?_
                  have hW342 : WX (okX E a) w340 := by rw [hw341]; exact hW333.set (k := 89) rfl ⟨_, rfl⟩
                  have k343 : w340[1]? = some (ob (a 1) 7 [.ref (a 2), .int (nI n2), .int v4, .int v330, .int v6]) := by rw [hw341]; exact set_ne k334 (by decide)
                  have k344 : w340[87]? = some (ob (a 87) 0 [.int (nI n287), .ref (a 88), .ref (a 89), .ref (a 90), .ref (a 91), .int (nI n289)]) := by rw [hw341]; exact set_ne k335 (by decide)
                  have k345 : w340[88]? = some (iA E (a 88) 24 (upd f292 (nI k).toNatClampNeg (sgW ws))) := by rw [hw341]; exact set_ne k336 (by decide)
                  have k346 : w340[89]? = some (iA E (a 89) 24 (upd (upd f301 (nI k).toNatClampNeg (-1)) (nI k).toNatClampNeg v339)) := by rw [hw341]; exact set_eq k337
                  have kp347 := keeps_set kp338 hw341 (by first | exact rfl | decide | omega | (dsimp only; omega))
                  refine x_iconst C (v := 1) dX0_whatIsDone_130 (by decide) rfl ?_
                  exact x_zret C hr hlk rfl dX0_whatIsDone_131 ⟨hW342, kp347, (Or.inr rfl)⟩
                · skip
                  refine x_aload_n C dX0_whatIsDone_103 rfl 3 rfl rfl ?_
                  refine x_iconst C (v := 3) dX0_whatIsDone_104 (by decide) rfl ?_
                  refine x_vi C (As := [.int 3]) (rest := []) (c_fails E l a w302 hW304 (3 : Int32)) mf_X8_fails w_678 1 k305 rfl rfl rfl (Nat.le_of_ble_eq_true rfl) ⟨(Nat.le_of_ble_eq_true rfl), (Nat.le_of_ble_eq_true rfl)⟩ ⟨(Nat.le_of_ble_eq_true rfl), (Nat.le_of_ble_eq_true rfl)⟩ dX0_whatIsDone_105 rfl (fun r349 w350 h348 => ?_)
                  obtain ⟨hW351, kq352, zb353⟩ := h348
                  have k354 : w350[87]? = some (ob (a 87) 0 [.int (nI n287), .ref (a 88), .ref (a 89), .ref (a 90), .ref (a 91), .int (nI n289)]) := keeps_at kq352 k306 (by first | decide | omega | (dsimp only; omega))
                  have k355 : w350[88]? = some (iA E (a 88) 24 (upd f292 (nI k).toNatClampNeg (sgW ws))) := keeps_at kq352 k307 (by first | decide | omega | (dsimp only; omega))
                  have k356 : w350[89]? = some (iA E (a 89) 24 (upd f301 (nI k).toNatClampNeg (-1))) := keeps_at kq352 k308 (by first | decide | omega | (dsimp only; omega))
                  have kp357 := keeps_tr kp309 kq352 (fun q hq => by first | omega | (dsimp only at *; omega))
                  exact x_zret C hr hlk (zb_nar zb353) dX0_whatIsDone_108 ⟨hW351, kp357, zb353⟩
              · skip
                refine x_aload_n C dX0_whatIsDone_87 rfl 3 rfl rfl ?_
                refine x_iconst C (v := 1) dX0_whatIsDone_88 (by decide) rfl ?_
                refine x_vi C (As := [.int 1]) (rest := []) (c_fails E l a w302 hW304 (1 : Int32)) mf_X8_fails w_678 1 k305 rfl rfl rfl (Nat.le_of_ble_eq_true rfl) ⟨(Nat.le_of_ble_eq_true rfl), (Nat.le_of_ble_eq_true rfl)⟩ ⟨(Nat.le_of_ble_eq_true rfl), (Nat.le_of_ble_eq_true rfl)⟩ dX0_whatIsDone_89 rfl (fun r359 w360 h358 => ?_)
                obtain ⟨hW361, kq362, zb363⟩ := h358
                have k364 : w360[87]? = some (ob (a 87) 0 [.int (nI n287), .ref (a 88), .ref (a 89), .ref (a 90), .ref (a 91), .int (nI n289)]) := keeps_at kq362 k306 (by first | decide | omega | (dsimp only; omega))
                have k365 : w360[88]? = some (iA E (a 88) 24 (upd f292 (nI k).toNatClampNeg (sgW ws))) := keeps_at kq362 k307 (by first | decide | omega | (dsimp only; omega))
                have k366 : w360[89]? = some (iA E (a 89) 24 (upd f301 (nI k).toNatClampNeg (-1))) := keeps_at kq362 k308 (by first | decide | omega | (dsimp only; omega))
                have kp367 := keeps_tr kp309 kq362 (fun q hq => by first | omega | (dsimp only at *; omega))
                exact x_zret C hr hlk (zb_nar zb363) dX0_whatIsDone_92 ⟨hW361, kp367, zb363⟩
            · skip
              refine x_iconst C (v := 1) dX0_whatIsDone_71 (by decide) rfl ?_
              exact x_zret C hr hlk rfl dX0_whatIsDone_72 ⟨hW304, kp309, (Or.inr rfl)⟩
        · skip
          refine x_aload_n C dX0_whatIsDone_29 rfl 2 rfl rfl ?_
          refine x_iconst C (v := 1) dX0_whatIsDone_30 (by decide) rfl ?_
          refine x_vi C (As := [.int 1]) (rest := []) (c_fails E l a ws hW (1 : Int32)) mf_X8_fails w_678 1 k1 rfl rfl rfl (Nat.le_of_ble_eq_true rfl) ⟨(Nat.le_of_ble_eq_true rfl), (Nat.le_of_ble_eq_true rfl)⟩ ⟨(Nat.le_of_ble_eq_true rfl), (Nat.le_of_ble_eq_true rfl)⟩ dX0_whatIsDone_31 rfl (fun r369 w370 h368 => ?_)
          obtain ⟨hW371, kq372, zb373⟩ := h368
          have kp374 := keeps_tr kp0 kq372 (fun q hq => by first | omega | (dsimp only at *; omega))
          exact x_zret C hr hlk (zb_nar zb373) dX0_whatIsDone_34 ⟨hW371, kp374, zb373⟩
theorem dX0_line_0 : decode cX0_line 0 = .ok (.aload_n 1, 1) := by decide +kernel
theorem dX0_line_1 : decode cX0_line 1 = .ok (.invokevirtual 35, 3) := by decide +kernel
theorem dX0_line_4 : decode cX0_line 4 = .ok (.istore_n 3, 1) := by decide +kernel
theorem dX0_line_5 : decode cX0_line 5 = .ok (.iload_n 3, 1) := by decide +kernel
theorem dX0_line_6 : decode cX0_line 6 = .ok (.invokestatic 48, 3) := by decide +kernel
theorem dX0_line_9 : decode cX0_line 9 = .ok (.ifCond .ne 15, 3) := by decide +kernel
theorem dX0_line_12 : decode cX0_line 12 = .ok (.iload_n 3, 1) := by decide +kernel
theorem dX0_line_13 : decode cX0_line 13 = .ok (.bipush 40, 2) := by decide +kernel
theorem dX0_line_15 : decode cX0_line 15 = .ok (.if_icmp .eq 9, 3) := by decide +kernel
theorem dX0_line_18 : decode cX0_line 18 = .ok (.aload_n 1, 1) := by decide +kernel
theorem dX0_line_19 : decode cX0_line 19 = .ok (.iconst 1, 1) := by decide +kernel
theorem dX0_line_20 : decode cX0_line 20 = .ok (.invokevirtual 45, 3) := by decide +kernel
theorem dX0_line_23 : decode cX0_line 23 = .ok (.ireturn, 1) := by decide +kernel
theorem dX0_line_24 : decode cX0_line 24 = .ok (.iload_n 2, 1) := by decide +kernel
theorem dX0_line_25 : decode cX0_line 25 = .ok (.ifCond .lt 9, 3) := by decide +kernel
theorem dX0_line_28 : decode cX0_line 28 = .ok (.iload_n 2, 1) := by decide +kernel
theorem dX0_line_29 : decode cX0_line 29 = .ok (.bipush 24, 2) := by decide +kernel
theorem dX0_line_31 : decode cX0_line 31 = .ok (.if_icmp .lt 9, 3) := by decide +kernel
theorem dX0_line_34 : decode cX0_line 34 = .ok (.aload_n 1, 1) := by decide +kernel
theorem dX0_line_35 : decode cX0_line 35 = .ok (.iconst 4, 1) := by decide +kernel
theorem dX0_line_36 : decode cX0_line 36 = .ok (.invokevirtual 45, 3) := by decide +kernel
theorem dX0_line_39 : decode cX0_line 39 = .ok (.ireturn, 1) := by decide +kernel
theorem dX0_line_40 : decode cX0_line 40 = .ok (.aload_n 0, 1) := by decide +kernel
theorem dX0_line_41 : decode cX0_line 41 = .ok (.getfield 22, 3) := by decide +kernel
theorem dX0_line_44 : decode cX0_line 44 = .ok (.iload_n 2, 1) := by decide +kernel
theorem dX0_line_45 : decode cX0_line 45 = .ok (.aload_n 0, 1) := by decide +kernel
theorem dX0_line_46 : decode cX0_line 46 = .ok (.getfield 28, 3) := by decide +kernel
theorem dX0_line_49 : decode cX0_line 49 = .ok (.iastore, 1) := by decide +kernel
theorem dX0_line_50 : decode cX0_line 50 = .ok (.iload_n 3, 1) := by decide +kernel
theorem dX0_line_51 : decode cX0_line 51 = .ok (.bipush 40, 2) := by decide +kernel
theorem dX0_line_53 : decode cX0_line 53 = .ok (.if_icmp .ne 14, 3) := by decide +kernel
theorem dX0_line_56 : decode cX0_line 56 = .ok (.aload_n 0, 1) := by decide +kernel
theorem dX0_line_57 : decode cX0_line 57 = .ok (.aload_n 1, 1) := by decide +kernel
theorem dX0_line_58 : decode cX0_line 58 = .ok (.invokevirtual 51, 3) := by decide +kernel
theorem dX0_line_61 : decode cX0_line 61 = .ok (.ifCond .ne 20, 3) := by decide +kernel
theorem dX0_line_64 : decode cX0_line 64 = .ok (.goto 15, 3) := by decide +kernel
theorem dX0_line_67 : decode cX0_line 67 = .ok (.aload_n 0, 1) := by decide +kernel
theorem dX0_line_68 : decode cX0_line 68 = .ok (.aload_n 1, 1) := by decide +kernel
theorem dX0_line_69 : decode cX0_line 69 = .ok (.aload_n 0, 1) := by decide +kernel
theorem dX0_line_70 : decode cX0_line 70 = .ok (.getfield 28, 3) := by decide +kernel
theorem dX0_line_73 : decode cX0_line 73 = .ok (.invokevirtual 55, 3) := by decide +kernel
theorem dX0_line_76 : decode cX0_line 76 = .ok (.ifCond .ne 5, 3) := by decide +kernel
theorem dX0_line_79 : decode cX0_line 79 = .ok (.iconst 0, 1) := by decide +kernel
theorem dX0_line_80 : decode cX0_line 80 = .ok (.ireturn, 1) := by decide +kernel
theorem dX0_line_81 : decode cX0_line 81 = .ok (.aload_n 0, 1) := by decide +kernel
theorem dX0_line_82 : decode cX0_line 82 = .ok (.getfield 22, 3) := by decide +kernel
theorem dX0_line_85 : decode cX0_line 85 = .ok (.iload_n 2, 1) := by decide +kernel
theorem dX0_line_86 : decode cX0_line 86 = .ok (.iconst 1, 1) := by decide +kernel
theorem dX0_line_87 : decode cX0_line 87 = .ok (.iadd, 1) := by decide +kernel
theorem dX0_line_88 : decode cX0_line 88 = .ok (.aload_n 0, 1) := by decide +kernel
theorem dX0_line_89 : decode cX0_line 89 = .ok (.getfield 28, 3) := by decide +kernel
theorem dX0_line_92 : decode cX0_line 92 = .ok (.iastore, 1) := by decide +kernel
theorem dX0_line_93 : decode cX0_line 93 = .ok (.aload_n 0, 1) := by decide +kernel
theorem dX0_line_94 : decode cX0_line 94 = .ok (.iload_n 2, 1) := by decide +kernel
theorem dX0_line_95 : decode cX0_line 95 = .ok (.iconst 1, 1) := by decide +kernel
theorem dX0_line_96 : decode cX0_line 96 = .ok (.iadd, 1) := by decide +kernel
theorem dX0_line_97 : decode cX0_line 97 = .ok (.putfield 9, 3) := by decide +kernel
theorem dX0_line_100 : decode cX0_line 100 = .ok (.aload_n 0, 1) := by decide +kernel
theorem dX0_line_101 : decode cX0_line 101 = .ok (.aload_n 1, 1) := by decide +kernel
theorem dX0_line_102 : decode cX0_line 102 = .ok (.iload_n 2, 1) := by decide +kernel
theorem dX0_line_103 : decode cX0_line 103 = .ok (.invokevirtual 58, 3) := by decide +kernel
theorem dX0_line_106 : decode cX0_line 106 = .ok (.ireturn, 1) := by decide +kernel
set_option maxRecDepth 20000 in
set_option maxHeartbeats 4000000 in
theorem c_line (E : xE) (l : Launch) (a : Nat → Nat) (ws : va_W) (hW : WX (okX E a) ws) (k : Int32) : xI E l yX0_line cX0_line 4 (some .boolean) 4 [.ref (a 87), .ref (a 1), .int k] ws (fun r w => WX (okX E a) w ∧ keeps ws w (fun q => (q = 1 ∨ q = 2) ∨ (87 ≤ q ∧ q < 92)) ∧ zb r) := by
  refine xI_start (lv := [(0, .ref (a 87)), (1, .ref (a 1)), (2, .int k)]) RX0 (by decide) rfl (Nat.le_of_ble_eq_true rfl) rfl (fun p e s m below meth c A C hr hlk => ?_)
  have kp0 : keeps ws ws (fun q => (q = 1 ∨ q = 2) ∨ (87 ≤ q ∧ q < 92)) := keeps_rf
  refine x_aload_n C dX0_line_0 rfl 1 rfl rfl ?_
  obtain ⟨_, k1, n2, v4, v5, v6, bn3, rfl⟩ := hW 1 _ rfl
  refine x_vi C (As := []) (rest := []) (c_signE E l a ws hW) mf_X8_sign w_676 1 k1 rfl rfl rfl (Nat.le_of_ble_eq_true rfl) ⟨(Nat.le_of_ble_eq_true rfl), (Nat.le_of_ble_eq_true rfl)⟩ ⟨(Nat.le_of_ble_eq_true rfl), (Nat.le_of_ble_eq_true rfl)⟩ dX0_line_1 rfl (fun r8 w9 h7 => ?_)
  obtain ⟨hW11, x10⟩ := h7
  refine x_top x10 (x_ws hW11 ?_)
  refine x_istore_n C (lv' := [(3, .int (sgW ws)), (0, .ref (a 87)), (1, .ref (a 1)), (2, .int k)]) dX0_line_4 rfl (by decide) rfl rfl ?_
  refine x_iload_n C dX0_line_5 rfl 0 rfl rfl ?_
  refine x_sn C (As := [.int (sgW ws)]) (rest := []) (c_isDigitE E l a ws hW ((sgW ws))) mf_X11_isDigit n_677 rfl rfl (Nat.le_of_ble_eq_true rfl) ⟨(Nat.le_of_ble_eq_true rfl), (Nat.le_of_ble_eq_true rfl)⟩ ⟨(Nat.le_of_ble_eq_true rfl), (Nat.le_of_ble_eq_true rfl)⟩ dX0_line_6 rfl (fun r13 w14 h12 => ?_)
  obtain ⟨hW15, zb16, x17⟩ := h12
  refine x_ws hW15 ?_
  refine x_if_ne C (tgt := 24) dX0_line_9 (by decide) rfl (fun c18 => ?_) (fun c18 => ?_)
  · skip
    obtain ⟨dj19, dl20, dh21, de22⟩ := w_nat (a := 48) (b := 57) (by decide) (by decide) (x17 c18)
    refine x_iload_n C dX0_line_24 rfl 3 rfl rfl ?_
    refine x_if_lt C (tgt := 34) dX0_line_25 (by decide) rfl (fun c23 => ?_) (fun c23 => ?_)
    · skip
      refine x_aload_n C dX0_line_34 rfl 2 rfl rfl ?_
      refine x_iconst C (v := 4) dX0_line_35 (by decide) rfl ?_
      refine x_vi C (As := [.int 4]) (rest := []) (c_fails E l a ws hW (4 : Int32)) mf_X8_fails w_678 1 k1 rfl rfl rfl (Nat.le_of_ble_eq_true rfl) ⟨(Nat.le_of_ble_eq_true rfl), (Nat.le_of_ble_eq_true rfl)⟩ ⟨(Nat.le_of_ble_eq_true rfl), (Nat.le_of_ble_eq_true rfl)⟩ dX0_line_36 rfl (fun r25 w26 h24 => ?_)
      obtain ⟨hW27, kq28, zb29⟩ := h24
      have kp30 := keeps_tr kp0 kq28 (fun q hq => by first | omega | (dsimp only at *; omega))
      exact x_zret C hr hlk (zb_nar zb29) dX0_line_39 ⟨hW27, kp30, zb29⟩
    · skip
      obtain ⟨j31, hj32, ej33⟩ := nI_of c23
      subst ej33
      refine x_iload_n C dX0_line_28 rfl 3 rfl rfl ?_
      refine x_bipush C (v := 24) dX0_line_29 (by decide) rfl ?_
      refine x_icmp_lt C (tgt := 40) dX0_line_31 (by decide) rfl (fun c34 => ?_) (fun c34 => ?_)
      · skip
        have nf35 := nI_lt' (a := j31) (b := 24) c34 (by omega) (by omega)
        refine x_aload_n C dX0_line_40 rfl 1 rfl rfl ?_
        obtain ⟨_, k36, n37, n39, bn38, bn40, rfl⟩ := hW 87 _ rfl
        refine x_get C (ci := 0) (k := 3) 87 k36 rfl in_X0 (by decide) w_298 rfl dX0_line_41 rfl ?_
        refine x_iload_n C dX0_line_44 rfl 3 rfl rfl ?_
        refine x_aload_n C dX0_line_45 rfl 1 rfl rfl ?_
        refine x_get C (ci := 0) (k := 5) 87 k36 rfl in_X0 (by decide) w_300 rfl dX0_line_46 rfl ?_
        obtain ⟨_, k41, g42, gb43, rfl⟩ := hW 90 _ rfl
        have gb44 := updn_le (i := j31) (v := n39) gb43 (by omega)
        obtain ⟨w45, hw46⟩ : ∃ w : va_W, w = List.set ws 90 (iA E (a 90) 25 (upd (fun j => nI (g42 j)) j31 (nI n39))) := ⟨_, rfl⟩
        refine x_iask C j31 (nI_clamp (by omega)) (nI_pos (by omega)) (by omega) 90 k41 hw46.symm dX0_line_49 rfl ?_
        have hW47 : WX (okX E a) w45 := by rw [hw46]; exact hW.set (k := 90) rfl ⟨_, gb44, iA_n (upd_nI g42 j31 n39)⟩
        have k48 : w45[1]? = some (ob (a 1) 7 [.ref (a 2), .int (nI n2), .int v4, .int v5, .int v6]) := by rw [hw46]; exact set_ne k1 (by decide)
        have k49 : w45[87]? = some (ob (a 87) 0 [.int (nI n37), .ref (a 88), .ref (a 89), .ref (a 90), .ref (a 91), .int (nI n39)]) := by rw [hw46]; exact set_ne k36 (by decide)
        have k50 : w45[90]? = some (iA E (a 90) 25 (upd (fun j => nI (g42 j)) j31 (nI n39))) := by rw [hw46]; exact set_eq k41
        have kp51 := keeps_set kp0 hw46 (by first | exact rfl | decide | omega | (dsimp only; omega))
        have k52 : w45[90]? = some (iA E (a 90) 25 (fun j => nI ((updn g42 j31 n39) j))) := by rw [← upd_nI]; exact k50
        refine x_iload_n C dX0_line_50 rfl 0 rfl rfl ?_
        refine x_bipush C (v := 40) dX0_line_51 (by decide) rfl ?_
        refine x_icmp_ne C (tgt := 67) dX0_line_53 (by decide) rfl (fun c53 => ?_) (fun c53 => ?_)
        · skip
          refine x_aload_n C dX0_line_67 rfl 1 rfl rfl ?_
          refine x_aload_n C dX0_line_68 rfl 2 rfl rfl ?_
          refine x_aload_n C dX0_line_69 rfl 1 rfl rfl ?_
          refine x_get C (ci := 0) (k := 5) 87 k49 rfl in_X0 (by decide) w_300 rfl dX0_line_70 rfl ?_
          refine x_vi C (As := [.ref (a 1), .int (nI n39)]) (rest := []) (c_oneEgg E l a w45 hW47 n39 (by omega)) mf_X0_oneEgg w_683 87 k49 rfl rfl rfl (Nat.le_of_ble_eq_true rfl) ⟨(Nat.le_of_ble_eq_true rfl), (Nat.le_of_ble_eq_true rfl)⟩ ⟨(Nat.le_of_ble_eq_true rfl), (Nat.le_of_ble_eq_true rfl)⟩ dX0_line_73 rfl (fun r55 w56 h54 => ?_)
          obtain ⟨hW57, kq58, zb59⟩ := h54
          have kp60 := keeps_tr kp51 kq58 (fun q hq => by first | omega | (dsimp only at *; omega))
          refine x_if_ne C (tgt := 81) dX0_line_76 (by decide) rfl (fun c61 => ?_) (fun c61 => ?_)
          · skip
            refine x_aload_n C dX0_line_81 rfl 1 rfl rfl ?_
            obtain ⟨_, k62, n63, n65, bn64, bn66, rfl⟩ := hW57 87 _ rfl
            refine x_get C (ci := 0) (k := 3) 87 k62 rfl in_X0 (by decide) w_298 rfl dX0_line_82 rfl ?_
            refine x_iload_n C dX0_line_85 rfl 3 rfl rfl ?_
            refine x_iconst C (v := 1) dX0_line_86 (by decide) rfl ?_
            refine x_iadd C (v := (nI (j31 + 1))) dX0_line_87 (nI_add j31 1) rfl ?_
            refine x_aload_n C dX0_line_88 rfl 1 rfl rfl ?_
            refine x_get C (ci := 0) (k := 5) 87 k62 rfl in_X0 (by decide) w_300 rfl dX0_line_89 rfl ?_
            obtain ⟨_, k67, g68, gb69, rfl⟩ := hW57 90 _ rfl
            have gb70 := updn_le (i := (j31 + 1)) (v := n65) gb69 (by omega)
            obtain ⟨w71, hw72⟩ : ∃ w : va_W, w = List.set w56 90 (iA E (a 90) 25 (upd (fun j => nI (g68 j)) (j31 + 1) (nI n65))) := ⟨_, rfl⟩
            refine x_iask C (j31 + 1) (nI_clamp (by omega)) (nI_pos (by omega)) (by omega) 90 k67 hw72.symm dX0_line_92 rfl ?_
            have hW73 : WX (okX E a) w71 := by rw [hw72]; exact hW57.set (k := 90) rfl ⟨_, gb70, iA_n (upd_nI g68 (j31 + 1) n65)⟩
            have k74 : w71[87]? = some (ob (a 87) 0 [.int (nI n63), .ref (a 88), .ref (a 89), .ref (a 90), .ref (a 91), .int (nI n65)]) := by rw [hw72]; exact set_ne k62 (by decide)
            have k75 : w71[90]? = some (iA E (a 90) 25 (upd (fun j => nI (g68 j)) (j31 + 1) (nI n65))) := by rw [hw72]; exact set_eq k67
            have kp76 := keeps_set kp60 hw72 (by first | exact rfl | decide | omega | (dsimp only; omega))
            have k77 : w71[90]? = some (iA E (a 90) 25 (fun j => nI ((updn g68 (j31 + 1) n65) j))) := by rw [← upd_nI]; exact k75
            refine x_aload_n C dX0_line_93 rfl 1 rfl rfl ?_
            refine x_iload_n C dX0_line_94 rfl 3 rfl rfl ?_
            refine x_iconst C (v := 1) dX0_line_95 (by decide) rfl ?_
            refine x_iadd C (v := (nI (j31 + 1))) dX0_line_96 (nI_add j31 1) rfl ?_
            obtain ⟨w78, hw79⟩ : ∃ w : va_W, w = List.set w71 87 (ob (a 87) 0 [.int (nI (j31 + 1)), .ref (a 88), .ref (a 89), .ref (a 90), .ref (a 91), .int (nI n65)]) := ⟨_, rfl⟩
            refine x_put C (ci := 0) (k := 0) (ty := .int) 87 k74 rfl in_X0 tyX0 tyX0_ok nmX0 (by decide) w_294 rfl rfl rfl rfl (Nat.le_of_ble_eq_true rfl) hw79.symm dX0_line_97 rfl ?_
            have hW80 : WX (okX E a) w78 := by rw [hw79]; exact hW73.set (k := 87) rfl ⟨(j31 + 1), n65, by omega, by omega, rfl⟩
            have k81 : w78[87]? = some (ob (a 87) 0 [.int (nI (j31 + 1)), .ref (a 88), .ref (a 89), .ref (a 90), .ref (a 91), .int (nI n65)]) := by rw [hw79]; exact set_eq k74
            have k82 : w78[90]? = some (iA E (a 90) 25 (fun j => nI ((updn g68 (j31 + 1) n65) j))) := by rw [hw79]; exact set_ne k77 (by decide)
            have kp83 := keeps_set kp76 hw79 (by first | exact rfl | decide | omega | (dsimp only; omega))
            refine x_aload_n C dX0_line_100 rfl 1 rfl rfl ?_
            refine x_aload_n C dX0_line_101 rfl 2 rfl rfl ?_
            refine x_iload_n C dX0_line_102 rfl 3 rfl rfl ?_
            refine x_vi C (As := [.ref (a 1), .int (nI j31)]) (rest := []) (c_whatIsDone E l a w78 hW80 j31 (by omega)) mf_X0_whatIsDone w_692 87 k81 rfl rfl rfl (Nat.le_of_ble_eq_true rfl) ⟨(Nat.le_of_ble_eq_true rfl), (Nat.le_of_ble_eq_true rfl)⟩ ⟨(Nat.le_of_ble_eq_true rfl), (Nat.le_of_ble_eq_true rfl)⟩ dX0_line_103 rfl (fun r85 w86 h84 => ?_)
            obtain ⟨hW87, kq88, zb89⟩ := h84
            have kp90 := keeps_tr kp83 kq88 (fun q hq => by first | omega | (dsimp only at *; omega))
            exact x_zret C hr hlk (zb_nar zb89) dX0_line_106 ⟨hW87, kp90, zb89⟩
          · skip
            refine x_iconst C (v := 0) dX0_line_79 (by decide) rfl ?_
            exact x_zret C hr hlk rfl dX0_line_80 ⟨hW57, kp60, (Or.inl rfl)⟩
        · skip
          refine x_aload_n C dX0_line_56 rfl 1 rfl rfl ?_
          refine x_aload_n C dX0_line_57 rfl 2 rfl rfl ?_
          refine x_vi C (As := [.ref (a 1)]) (rest := []) (c_someEggs E l a w45 hW47) mf_X0_someEggs w_679 87 k49 rfl rfl rfl (Nat.le_of_ble_eq_true rfl) ⟨(Nat.le_of_ble_eq_true rfl), (Nat.le_of_ble_eq_true rfl)⟩ ⟨(Nat.le_of_ble_eq_true rfl), (Nat.le_of_ble_eq_true rfl)⟩ dX0_line_58 rfl (fun r92 w93 h91 => ?_)
          obtain ⟨hW94, kq95, zb96⟩ := h91
          have kp97 := keeps_tr kp51 kq95 (fun q hq => by first | omega | (dsimp only at *; omega))
          refine x_if_ne C (tgt := 81) dX0_line_61 (by decide) rfl (fun c98 => ?_) (fun c98 => ?_)
          · skip
            refine x_aload_n C dX0_line_81 rfl 1 rfl rfl ?_
            obtain ⟨_, k99, n100, n102, bn101, bn103, rfl⟩ := hW94 87 _ rfl
            refine x_get C (ci := 0) (k := 3) 87 k99 rfl in_X0 (by decide) w_298 rfl dX0_line_82 rfl ?_
            refine x_iload_n C dX0_line_85 rfl 3 rfl rfl ?_
            refine x_iconst C (v := 1) dX0_line_86 (by decide) rfl ?_
            refine x_iadd C (v := (nI (j31 + 1))) dX0_line_87 (nI_add j31 1) rfl ?_
            refine x_aload_n C dX0_line_88 rfl 1 rfl rfl ?_
            refine x_get C (ci := 0) (k := 5) 87 k99 rfl in_X0 (by decide) w_300 rfl dX0_line_89 rfl ?_
            obtain ⟨_, k104, g105, gb106, rfl⟩ := hW94 90 _ rfl
            have gb107 := updn_le (i := (j31 + 1)) (v := n102) gb106 (by omega)
            obtain ⟨w108, hw109⟩ : ∃ w : va_W, w = List.set w93 90 (iA E (a 90) 25 (upd (fun j => nI (g105 j)) (j31 + 1) (nI n102))) := ⟨_, rfl⟩
            refine x_iask C (j31 + 1) (nI_clamp (by omega)) (nI_pos (by omega)) (by omega) 90 k104 hw109.symm dX0_line_92 rfl ?_
            have hW110 : WX (okX E a) w108 := by rw [hw109]; exact hW94.set (k := 90) rfl ⟨_, gb107, iA_n (upd_nI g105 (j31 + 1) n102)⟩
            have k111 : w108[87]? = some (ob (a 87) 0 [.int (nI n100), .ref (a 88), .ref (a 89), .ref (a 90), .ref (a 91), .int (nI n102)]) := by rw [hw109]; exact set_ne k99 (by decide)
            have k112 : w108[90]? = some (iA E (a 90) 25 (upd (fun j => nI (g105 j)) (j31 + 1) (nI n102))) := by rw [hw109]; exact set_eq k104
            have kp113 := keeps_set kp97 hw109 (by first | exact rfl | decide | omega | (dsimp only; omega))
            have k114 : w108[90]? = some (iA E (a 90) 25 (fun j => nI ((updn g105 (j31 + 1) n102) j))) := by rw [← upd_nI]; exact k112
            refine x_aload_n C dX0_line_93 rfl 1 rfl rfl ?_
            refine x_iload_n C dX0_line_94 rfl 3 rfl rfl ?_
            refine x_iconst C (v := 1) dX0_line_95 (by decide) rfl ?_
            refine x_iadd C (v := (nI (j31 + 1))) dX0_line_96 (nI_add j31 1) rfl ?_
            obtain ⟨w115, hw116⟩ : ∃ w : va_W, w = List.set w108 87 (ob (a 87) 0 [.int (nI (j31 + 1)), .ref (a 88), .ref (a 89), .ref (a 90), .ref (a 91), .int (nI n102)]) := ⟨_, rfl⟩
            refine x_put C (ci := 0) (k := 0) (ty := .int) 87 k111 rfl in_X0 tyX0 tyX0_ok nmX0 (by decide) w_294 rfl rfl rfl rfl (Nat.le_of_ble_eq_true rfl) hw116.symm dX0_line_97 rfl ?_
            have hW117 : WX (okX E a) w115 := by rw [hw116]; exact hW110.set (k := 87) rfl ⟨(j31 + 1), n102, by omega, by omega, rfl⟩
            have k118 : w115[87]? = some (ob (a 87) 0 [.int (nI (j31 + 1)), .ref (a 88), .ref (a 89), .ref (a 90), .ref (a 91), .int (nI n102)]) := by rw [hw116]; exact set_eq k111
            have k119 : w115[90]? = some (iA E (a 90) 25 (fun j => nI ((updn g105 (j31 + 1) n102) j))) := by rw [hw116]; exact set_ne k114 (by decide)
            have kp120 := keeps_set kp113 hw116 (by first | exact rfl | decide | omega | (dsimp only; omega))
            refine x_aload_n C dX0_line_100 rfl 1 rfl rfl ?_
            refine x_aload_n C dX0_line_101 rfl 2 rfl rfl ?_
            refine x_iload_n C dX0_line_102 rfl 3 rfl rfl ?_
            refine x_vi C (As := [.ref (a 1), .int (nI j31)]) (rest := []) (c_whatIsDone E l a w115 hW117 j31 (by omega)) mf_X0_whatIsDone w_692 87 k118 rfl rfl rfl (Nat.le_of_ble_eq_true rfl) ⟨(Nat.le_of_ble_eq_true rfl), (Nat.le_of_ble_eq_true rfl)⟩ ⟨(Nat.le_of_ble_eq_true rfl), (Nat.le_of_ble_eq_true rfl)⟩ dX0_line_103 rfl (fun r122 w123 h121 => ?_)
            obtain ⟨hW124, kq125, zb126⟩ := h121
            have kp127 := keeps_tr kp120 kq125 (fun q hq => by first | omega | (dsimp only at *; omega))
            exact x_zret C hr hlk (zb_nar zb126) dX0_line_106 ⟨hW124, kp127, zb126⟩
          · skip
            refine x_goto C (tgt := 79) dX0_line_64 (by decide) ?_
            refine x_iconst C (v := 0) dX0_line_79 (by decide) rfl ?_
            exact x_zret C hr hlk rfl dX0_line_80 ⟨hW94, kp97, (Or.inl rfl)⟩
      · skip
        have nf128 := nI_nlt' (a := j31) (b := 24) c34 (by omega) (by omega)
        refine x_aload_n C dX0_line_34 rfl 2 rfl rfl ?_
        refine x_iconst C (v := 4) dX0_line_35 (by decide) rfl ?_
        refine x_vi C (As := [.int 4]) (rest := []) (c_fails E l a ws hW (4 : Int32)) mf_X8_fails w_678 1 k1 rfl rfl rfl (Nat.le_of_ble_eq_true rfl) ⟨(Nat.le_of_ble_eq_true rfl), (Nat.le_of_ble_eq_true rfl)⟩ ⟨(Nat.le_of_ble_eq_true rfl), (Nat.le_of_ble_eq_true rfl)⟩ dX0_line_36 rfl (fun r130 w131 h129 => ?_)
        obtain ⟨hW132, kq133, zb134⟩ := h129
        have kp135 := keeps_tr kp0 kq133 (fun q hq => by first | omega | (dsimp only at *; omega))
        exact x_zret C hr hlk (zb_nar zb134) dX0_line_39 ⟨hW132, kp135, zb134⟩
  · skip
    refine x_iload_n C dX0_line_12 rfl 0 rfl rfl ?_
    refine x_bipush C (v := 40) dX0_line_13 (by decide) rfl ?_
    refine x_icmp_eq C (tgt := 24) dX0_line_15 (by decide) rfl (fun c136 => ?_) (fun c136 => ?_)
    · skip
      refine x_iload_n C dX0_line_24 rfl 3 rfl rfl ?_
      refine x_if_lt C (tgt := 34) dX0_line_25 (by decide) rfl (fun c137 => ?_) (fun c137 => ?_)
      · skip
        refine x_aload_n C dX0_line_34 rfl 2 rfl rfl ?_
        refine x_iconst C (v := 4) dX0_line_35 (by decide) rfl ?_
        refine x_vi C (As := [.int 4]) (rest := []) (c_fails E l a ws hW (4 : Int32)) mf_X8_fails w_678 1 k1 rfl rfl rfl (Nat.le_of_ble_eq_true rfl) ⟨(Nat.le_of_ble_eq_true rfl), (Nat.le_of_ble_eq_true rfl)⟩ ⟨(Nat.le_of_ble_eq_true rfl), (Nat.le_of_ble_eq_true rfl)⟩ dX0_line_36 rfl (fun r139 w140 h138 => ?_)
        obtain ⟨hW141, kq142, zb143⟩ := h138
        have kp144 := keeps_tr kp0 kq142 (fun q hq => by first | omega | (dsimp only at *; omega))
        exact x_zret C hr hlk (zb_nar zb143) dX0_line_39 ⟨hW141, kp144, zb143⟩
      · skip
        obtain ⟨j145, hj146, ej147⟩ := nI_of c137
        subst ej147
        refine x_iload_n C dX0_line_28 rfl 3 rfl rfl ?_
        refine x_bipush C (v := 24) dX0_line_29 (by decide) rfl ?_
        refine x_icmp_lt C (tgt := 40) dX0_line_31 (by decide) rfl (fun c148 => ?_) (fun c148 => ?_)
        · skip
          have nf149 := nI_lt' (a := j145) (b := 24) c148 (by omega) (by omega)
          refine x_aload_n C dX0_line_40 rfl 1 rfl rfl ?_
          obtain ⟨_, k150, n151, n153, bn152, bn154, rfl⟩ := hW 87 _ rfl
          refine x_get C (ci := 0) (k := 3) 87 k150 rfl in_X0 (by decide) w_298 rfl dX0_line_41 rfl ?_
          refine x_iload_n C dX0_line_44 rfl 3 rfl rfl ?_
          refine x_aload_n C dX0_line_45 rfl 1 rfl rfl ?_
          refine x_get C (ci := 0) (k := 5) 87 k150 rfl in_X0 (by decide) w_300 rfl dX0_line_46 rfl ?_
          obtain ⟨_, k155, g156, gb157, rfl⟩ := hW 90 _ rfl
          have gb158 := updn_le (i := j145) (v := n153) gb157 (by omega)
          obtain ⟨w159, hw160⟩ : ∃ w : va_W, w = List.set ws 90 (iA E (a 90) 25 (upd (fun j => nI (g156 j)) j145 (nI n153))) := ⟨_, rfl⟩
          refine x_iask C j145 (nI_clamp (by omega)) (nI_pos (by omega)) (by omega) 90 k155 hw160.symm dX0_line_49 rfl ?_
          have hW161 : WX (okX E a) w159 := by rw [hw160]; exact hW.set (k := 90) rfl ⟨_, gb158, iA_n (upd_nI g156 j145 n153)⟩
          have k162 : w159[1]? = some (ob (a 1) 7 [.ref (a 2), .int (nI n2), .int v4, .int v5, .int v6]) := by rw [hw160]; exact set_ne k1 (by decide)
          have k163 : w159[87]? = some (ob (a 87) 0 [.int (nI n151), .ref (a 88), .ref (a 89), .ref (a 90), .ref (a 91), .int (nI n153)]) := by rw [hw160]; exact set_ne k150 (by decide)
          have k164 : w159[90]? = some (iA E (a 90) 25 (upd (fun j => nI (g156 j)) j145 (nI n153))) := by rw [hw160]; exact set_eq k155
          have kp165 := keeps_set kp0 hw160 (by first | exact rfl | decide | omega | (dsimp only; omega))
          have k166 : w159[90]? = some (iA E (a 90) 25 (fun j => nI ((updn g156 j145 n153) j))) := by rw [← upd_nI]; exact k164
          refine x_iload_n C dX0_line_50 rfl 0 rfl rfl ?_
          refine x_bipush C (v := 40) dX0_line_51 (by decide) rfl ?_
          refine x_icmp_ne C (tgt := 67) dX0_line_53 (by decide) rfl (fun c167 => ?_) (fun c167 => ?_)
          · skip
            refine x_aload_n C dX0_line_67 rfl 1 rfl rfl ?_
            refine x_aload_n C dX0_line_68 rfl 2 rfl rfl ?_
            refine x_aload_n C dX0_line_69 rfl 1 rfl rfl ?_
            refine x_get C (ci := 0) (k := 5) 87 k163 rfl in_X0 (by decide) w_300 rfl dX0_line_70 rfl ?_
            refine x_vi C (As := [.ref (a 1), .int (nI n153)]) (rest := []) (c_oneEgg E l a w159 hW161 n153 (by omega)) mf_X0_oneEgg w_683 87 k163 rfl rfl rfl (Nat.le_of_ble_eq_true rfl) ⟨(Nat.le_of_ble_eq_true rfl), (Nat.le_of_ble_eq_true rfl)⟩ ⟨(Nat.le_of_ble_eq_true rfl), (Nat.le_of_ble_eq_true rfl)⟩ dX0_line_73 rfl (fun r169 w170 h168 => ?_)
            obtain ⟨hW171, kq172, zb173⟩ := h168
            have kp174 := keeps_tr kp165 kq172 (fun q hq => by first | omega | (dsimp only at *; omega))
            refine x_if_ne C (tgt := 81) dX0_line_76 (by decide) rfl (fun c175 => ?_) (fun c175 => ?_)
            · skip
              refine x_aload_n C dX0_line_81 rfl 1 rfl rfl ?_
              obtain ⟨_, k176, n177, n179, bn178, bn180, rfl⟩ := hW171 87 _ rfl
              refine x_get C (ci := 0) (k := 3) 87 k176 rfl in_X0 (by decide) w_298 rfl dX0_line_82 rfl ?_
              refine x_iload_n C dX0_line_85 rfl 3 rfl rfl ?_
              refine x_iconst C (v := 1) dX0_line_86 (by decide) rfl ?_
              refine x_iadd C (v := (nI (j145 + 1))) dX0_line_87 (nI_add j145 1) rfl ?_
              refine x_aload_n C dX0_line_88 rfl 1 rfl rfl ?_
              refine x_get C (ci := 0) (k := 5) 87 k176 rfl in_X0 (by decide) w_300 rfl dX0_line_89 rfl ?_
              obtain ⟨_, k181, g182, gb183, rfl⟩ := hW171 90 _ rfl
              have gb184 := updn_le (i := (j145 + 1)) (v := n179) gb183 (by omega)
              obtain ⟨w185, hw186⟩ : ∃ w : va_W, w = List.set w170 90 (iA E (a 90) 25 (upd (fun j => nI (g182 j)) (j145 + 1) (nI n179))) := ⟨_, rfl⟩
              refine x_iask C (j145 + 1) (nI_clamp (by omega)) (nI_pos (by omega)) (by omega) 90 k181 hw186.symm dX0_line_92 rfl ?_
              have hW187 : WX (okX E a) w185 := by rw [hw186]; exact hW171.set (k := 90) rfl ⟨_, gb184, iA_n (upd_nI g182 (j145 + 1) n179)⟩
              have k188 : w185[87]? = some (ob (a 87) 0 [.int (nI n177), .ref (a 88), .ref (a 89), .ref (a 90), .ref (a 91), .int (nI n179)]) := by rw [hw186]; exact set_ne k176 (by decide)
              have k189 : w185[90]? = some (iA E (a 90) 25 (upd (fun j => nI (g182 j)) (j145 + 1) (nI n179))) := by rw [hw186]; exact set_eq k181
              have kp190 := keeps_set kp174 hw186 (by first | exact rfl | decide | omega | (dsimp only; omega))
              have k191 : w185[90]? = some (iA E (a 90) 25 (fun j => nI ((updn g182 (j145 + 1) n179) j))) := by rw [← upd_nI]; exact k189
              refine x_aload_n C dX0_line_93 rfl 1 rfl rfl ?_
              refine x_iload_n C dX0_line_94 rfl 3 rfl rfl ?_
              refine x_iconst C (v := 1) dX0_line_95 (by decide) rfl ?_
              refine x_iadd C (v := (nI (j145 + 1))) dX0_line_96 (nI_add j145 1) rfl ?_
              obtain ⟨w192, hw193⟩ : ∃ w : va_W, w = List.set w185 87 (ob (a 87) 0 [.int (nI (j145 + 1)), .ref (a 88), .ref (a 89), .ref (a 90), .ref (a 91), .int (nI n179)]) := ⟨_, rfl⟩
              refine x_put C (ci := 0) (k := 0) (ty := .int) 87 k188 rfl in_X0 tyX0 tyX0_ok nmX0 (by decide) w_294 rfl rfl rfl rfl (Nat.le_of_ble_eq_true rfl) hw193.symm dX0_line_97 rfl ?_
              have hW194 : WX (okX E a) w192 := by rw [hw193]; exact hW187.set (k := 87) rfl ⟨(j145 + 1), n179, by omega, by omega, rfl⟩
              have k195 : w192[87]? = some (ob (a 87) 0 [.int (nI (j145 + 1)), .ref (a 88), .ref (a 89), .ref (a 90), .ref (a 91), .int (nI n179)]) := by rw [hw193]; exact set_eq k188
              have k196 : w192[90]? = some (iA E (a 90) 25 (fun j => nI ((updn g182 (j145 + 1) n179) j))) := by rw [hw193]; exact set_ne k191 (by decide)
              have kp197 := keeps_set kp190 hw193 (by first | exact rfl | decide | omega | (dsimp only; omega))
              refine x_aload_n C dX0_line_100 rfl 1 rfl rfl ?_
              refine x_aload_n C dX0_line_101 rfl 2 rfl rfl ?_
              refine x_iload_n C dX0_line_102 rfl 3 rfl rfl ?_
              refine x_vi C (As := [.ref (a 1), .int (nI j145)]) (rest := []) (c_whatIsDone E l a w192 hW194 j145 (by omega)) mf_X0_whatIsDone w_692 87 k195 rfl rfl rfl (Nat.le_of_ble_eq_true rfl) ⟨(Nat.le_of_ble_eq_true rfl), (Nat.le_of_ble_eq_true rfl)⟩ ⟨(Nat.le_of_ble_eq_true rfl), (Nat.le_of_ble_eq_true rfl)⟩ dX0_line_103 rfl (fun r199 w200 h198 => ?_)
              obtain ⟨hW201, kq202, zb203⟩ := h198
              have kp204 := keeps_tr kp197 kq202 (fun q hq => by first | omega | (dsimp only at *; omega))
              exact x_zret C hr hlk (zb_nar zb203) dX0_line_106 ⟨hW201, kp204, zb203⟩
            · skip
              refine x_iconst C (v := 0) dX0_line_79 (by decide) rfl ?_
              exact x_zret C hr hlk rfl dX0_line_80 ⟨hW171, kp174, (Or.inl rfl)⟩
          · skip
            refine x_aload_n C dX0_line_56 rfl 1 rfl rfl ?_
            refine x_aload_n C dX0_line_57 rfl 2 rfl rfl ?_
            refine x_vi C (As := [.ref (a 1)]) (rest := []) (c_someEggs E l a w159 hW161) mf_X0_someEggs w_679 87 k163 rfl rfl rfl (Nat.le_of_ble_eq_true rfl) ⟨(Nat.le_of_ble_eq_true rfl), (Nat.le_of_ble_eq_true rfl)⟩ ⟨(Nat.le_of_ble_eq_true rfl), (Nat.le_of_ble_eq_true rfl)⟩ dX0_line_58 rfl (fun r206 w207 h205 => ?_)
            obtain ⟨hW208, kq209, zb210⟩ := h205
            have kp211 := keeps_tr kp165 kq209 (fun q hq => by first | omega | (dsimp only at *; omega))
            refine x_if_ne C (tgt := 81) dX0_line_61 (by decide) rfl (fun c212 => ?_) (fun c212 => ?_)
            · skip
              refine x_aload_n C dX0_line_81 rfl 1 rfl rfl ?_
              obtain ⟨_, k213, n214, n216, bn215, bn217, rfl⟩ := hW208 87 _ rfl
              refine x_get C (ci := 0) (k := 3) 87 k213 rfl in_X0 (by decide) w_298 rfl dX0_line_82 rfl ?_
              refine x_iload_n C dX0_line_85 rfl 3 rfl rfl ?_
              refine x_iconst C (v := 1) dX0_line_86 (by decide) rfl ?_
              refine x_iadd C (v := (nI (j145 + 1))) dX0_line_87 (nI_add j145 1) rfl ?_
              refine x_aload_n C dX0_line_88 rfl 1 rfl rfl ?_
              refine x_get C (ci := 0) (k := 5) 87 k213 rfl in_X0 (by decide) w_300 rfl dX0_line_89 rfl ?_
              obtain ⟨_, k218, g219, gb220, rfl⟩ := hW208 90 _ rfl
              have gb221 := updn_le (i := (j145 + 1)) (v := n216) gb220 (by omega)
              obtain ⟨w222, hw223⟩ : ∃ w : va_W, w = List.set w207 90 (iA E (a 90) 25 (upd (fun j => nI (g219 j)) (j145 + 1) (nI n216))) := ⟨_, rfl⟩
              refine x_iask C (j145 + 1) (nI_clamp (by omega)) (nI_pos (by omega)) (by omega) 90 k218 hw223.symm dX0_line_92 rfl ?_
              have hW224 : WX (okX E a) w222 := by rw [hw223]; exact hW208.set (k := 90) rfl ⟨_, gb221, iA_n (upd_nI g219 (j145 + 1) n216)⟩
              have k225 : w222[87]? = some (ob (a 87) 0 [.int (nI n214), .ref (a 88), .ref (a 89), .ref (a 90), .ref (a 91), .int (nI n216)]) := by rw [hw223]; exact set_ne k213 (by decide)
              have k226 : w222[90]? = some (iA E (a 90) 25 (upd (fun j => nI (g219 j)) (j145 + 1) (nI n216))) := by rw [hw223]; exact set_eq k218
              have kp227 := keeps_set kp211 hw223 (by first | exact rfl | decide | omega | (dsimp only; omega))
              have k228 : w222[90]? = some (iA E (a 90) 25 (fun j => nI ((updn g219 (j145 + 1) n216) j))) := by rw [← upd_nI]; exact k226
              refine x_aload_n C dX0_line_93 rfl 1 rfl rfl ?_
              refine x_iload_n C dX0_line_94 rfl 3 rfl rfl ?_
              refine x_iconst C (v := 1) dX0_line_95 (by decide) rfl ?_
              refine x_iadd C (v := (nI (j145 + 1))) dX0_line_96 (nI_add j145 1) rfl ?_
              obtain ⟨w229, hw230⟩ : ∃ w : va_W, w = List.set w222 87 (ob (a 87) 0 [.int (nI (j145 + 1)), .ref (a 88), .ref (a 89), .ref (a 90), .ref (a 91), .int (nI n216)]) := ⟨_, rfl⟩
              refine x_put C (ci := 0) (k := 0) (ty := .int) 87 k225 rfl in_X0 tyX0 tyX0_ok nmX0 (by decide) w_294 rfl rfl rfl rfl (Nat.le_of_ble_eq_true rfl) hw230.symm dX0_line_97 rfl ?_
              have hW231 : WX (okX E a) w229 := by rw [hw230]; exact hW224.set (k := 87) rfl ⟨(j145 + 1), n216, by omega, by omega, rfl⟩
              have k232 : w229[87]? = some (ob (a 87) 0 [.int (nI (j145 + 1)), .ref (a 88), .ref (a 89), .ref (a 90), .ref (a 91), .int (nI n216)]) := by rw [hw230]; exact set_eq k225
              have k233 : w229[90]? = some (iA E (a 90) 25 (fun j => nI ((updn g219 (j145 + 1) n216) j))) := by rw [hw230]; exact set_ne k228 (by decide)
              have kp234 := keeps_set kp227 hw230 (by first | exact rfl | decide | omega | (dsimp only; omega))
              refine x_aload_n C dX0_line_100 rfl 1 rfl rfl ?_
              refine x_aload_n C dX0_line_101 rfl 2 rfl rfl ?_
              refine x_iload_n C dX0_line_102 rfl 3 rfl rfl ?_
              refine x_vi C (As := [.ref (a 1), .int (nI j145)]) (rest := []) (c_whatIsDone E l a w229 hW231 j145 (by omega)) mf_X0_whatIsDone w_692 87 k232 rfl rfl rfl (Nat.le_of_ble_eq_true rfl) ⟨(Nat.le_of_ble_eq_true rfl), (Nat.le_of_ble_eq_true rfl)⟩ ⟨(Nat.le_of_ble_eq_true rfl), (Nat.le_of_ble_eq_true rfl)⟩ dX0_line_103 rfl (fun r236 w237 h235 => ?_)
              obtain ⟨hW238, kq239, zb240⟩ := h235
              have kp241 := keeps_tr kp234 kq239 (fun q hq => by first | omega | (dsimp only at *; omega))
              exact x_zret C hr hlk (zb_nar zb240) dX0_line_106 ⟨hW238, kp241, zb240⟩
            · skip
              refine x_goto C (tgt := 79) dX0_line_64 (by decide) ?_
              refine x_iconst C (v := 0) dX0_line_79 (by decide) rfl ?_
              exact x_zret C hr hlk rfl dX0_line_80 ⟨hW208, kp211, (Or.inl rfl)⟩
        · skip
          have nf242 := nI_nlt' (a := j145) (b := 24) c148 (by omega) (by omega)
          refine x_aload_n C dX0_line_34 rfl 2 rfl rfl ?_
          refine x_iconst C (v := 4) dX0_line_35 (by decide) rfl ?_
          refine x_vi C (As := [.int 4]) (rest := []) (c_fails E l a ws hW (4 : Int32)) mf_X8_fails w_678 1 k1 rfl rfl rfl (Nat.le_of_ble_eq_true rfl) ⟨(Nat.le_of_ble_eq_true rfl), (Nat.le_of_ble_eq_true rfl)⟩ ⟨(Nat.le_of_ble_eq_true rfl), (Nat.le_of_ble_eq_true rfl)⟩ dX0_line_36 rfl (fun r244 w245 h243 => ?_)
          obtain ⟨hW246, kq247, zb248⟩ := h243
          have kp249 := keeps_tr kp0 kq247 (fun q hq => by first | omega | (dsimp only at *; omega))
          exact x_zret C hr hlk (zb_nar zb248) dX0_line_39 ⟨hW246, kp249, zb248⟩
    · skip
      refine x_aload_n C dX0_line_18 rfl 2 rfl rfl ?_
      refine x_iconst C (v := 1) dX0_line_19 (by decide) rfl ?_
      refine x_vi C (As := [.int 1]) (rest := []) (c_fails E l a ws hW (1 : Int32)) mf_X8_fails w_678 1 k1 rfl rfl rfl (Nat.le_of_ble_eq_true rfl) ⟨(Nat.le_of_ble_eq_true rfl), (Nat.le_of_ble_eq_true rfl)⟩ ⟨(Nat.le_of_ble_eq_true rfl), (Nat.le_of_ble_eq_true rfl)⟩ dX0_line_20 rfl (fun r251 w252 h250 => ?_)
      obtain ⟨hW253, kq254, zb255⟩ := h250
      have kp256 := keeps_tr kp0 kq254 (fun q hq => by first | omega | (dsimp only at *; omega))
      exact x_zret C hr hlk (zb_nar zb255) dX0_line_23 ⟨hW253, kp256, zb255⟩
theorem dX0_read_0 : decode cX0_read 0 = .ok (.aload_n 0, 1) := by decide +kernel
theorem dX0_read_1 : decode cX0_read 1 = .ok (.iconst 0, 1) := by decide +kernel
theorem dX0_read_2 : decode cX0_read 2 = .ok (.putfield 28, 3) := by decide +kernel
theorem dX0_read_5 : decode cX0_read 5 = .ok (.aload_n 0, 1) := by decide +kernel
theorem dX0_read_6 : decode cX0_read 6 = .ok (.iconst 0, 1) := by decide +kernel
theorem dX0_read_7 : decode cX0_read 7 = .ok (.putfield 9, 3) := by decide +kernel
theorem dX0_read_10 : decode cX0_read 10 = .ok (.iconst 0, 1) := by decide +kernel
theorem dX0_read_11 : decode cX0_read 11 = .ok (.istore_n 2, 1) := by decide +kernel
theorem dX0_read_12 : decode cX0_read 12 = .ok (.iload_n 2, 1) := by decide +kernel
theorem dX0_read_13 : decode cX0_read 13 = .ok (.bipush 24, 2) := by decide +kernel
theorem dX0_read_15 : decode cX0_read 15 = .ok (.if_icmp .gt 41, 3) := by decide +kernel
theorem dX0_read_18 : decode cX0_read 18 = .ok (.aload_n 0, 1) := by decide +kernel
theorem dX0_read_19 : decode cX0_read 19 = .ok (.aload_n 1, 1) := by decide +kernel
theorem dX0_read_20 : decode cX0_read 20 = .ok (.iload_n 2, 1) := by decide +kernel
theorem dX0_read_21 : decode cX0_read 21 = .ok (.invokevirtual 31, 3) := by decide +kernel
theorem dX0_read_24 : decode cX0_read 24 = .ok (.ifCond .ne 5, 3) := by decide +kernel
theorem dX0_read_27 : decode cX0_read 27 = .ok (.iconst 0, 1) := by decide +kernel
theorem dX0_read_28 : decode cX0_read 28 = .ok (.ireturn, 1) := by decide +kernel
theorem dX0_read_29 : decode cX0_read 29 = .ok (.aload_n 1, 1) := by decide +kernel
theorem dX0_read_30 : decode cX0_read 30 = .ok (.invokevirtual 35, 3) := by decide +kernel
theorem dX0_read_33 : decode cX0_read 33 = .ok (.iconst (-1), 1) := by decide +kernel
theorem dX0_read_34 : decode cX0_read 34 = .ok (.if_icmp .ne 5, 3) := by decide +kernel
theorem dX0_read_37 : decode cX0_read 37 = .ok (.iconst 1, 1) := by decide +kernel
theorem dX0_read_38 : decode cX0_read 38 = .ok (.ireturn, 1) := by decide +kernel
theorem dX0_read_39 : decode cX0_read 39 = .ok (.aload_n 1, 1) := by decide +kernel
theorem dX0_read_40 : decode cX0_read 40 = .ok (.bipush 44, 2) := by decide +kernel
theorem dX0_read_42 : decode cX0_read 42 = .ok (.invokevirtual 41, 3) := by decide +kernel
theorem dX0_read_45 : decode cX0_read 45 = .ok (.ifCond .ne 5, 3) := by decide +kernel
theorem dX0_read_48 : decode cX0_read 48 = .ok (.iconst 0, 1) := by decide +kernel
theorem dX0_read_49 : decode cX0_read 49 = .ok (.ireturn, 1) := by decide +kernel
theorem dX0_read_50 : decode cX0_read 50 = .ok (.iinc 2 1, 3) := by decide +kernel
theorem dX0_read_53 : decode cX0_read 53 = .ok (.goto (-41), 3) := by decide +kernel
theorem dX0_read_56 : decode cX0_read 56 = .ok (.aload_n 1, 1) := by decide +kernel
theorem dX0_read_57 : decode cX0_read 57 = .ok (.iconst 4, 1) := by decide +kernel
theorem dX0_read_58 : decode cX0_read 58 = .ok (.invokevirtual 45, 3) := by decide +kernel
theorem dX0_read_61 : decode cX0_read 61 = .ok (.ireturn, 1) := by decide +kernel
set_option maxRecDepth 20000 in
set_option maxHeartbeats 4000000 in
theorem c_Acts_read (E : xE) (l : Launch) (a : Nat → Nat) (ws : va_W) (hW : WX (okX E a) ws) : xI E l yX0_read cX0_read 3 (some .boolean) 5 [.ref (a 87), .ref (a 1)] ws (fun r w => WX (okX E a) w ∧ keeps ws w (fun q => (q = 1 ∨ q = 2) ∨ (87 ≤ q ∧ q < 92)) ∧ zb r) := by
  refine xI_start (lv := [(0, .ref (a 87)), (1, .ref (a 1))]) RX0 (by decide) rfl (Nat.le_of_ble_eq_true rfl) rfl (fun p e s m below meth c A C hr hlk => ?_)
  have kp0 : keeps ws ws (fun q => (q = 1 ∨ q = 2) ∨ (87 ≤ q ∧ q < 92)) := keeps_rf
  refine x_aload_n C dX0_read_0 rfl 0 rfl rfl ?_
  refine x_iconst C (v := 0) dX0_read_1 (by decide) rfl ?_
  obtain ⟨_, k1, n2, n4, bn3, bn5, rfl⟩ := hW 87 _ rfl
  obtain ⟨w6, hw7⟩ : ∃ w : va_W, w = List.set ws 87 (ob (a 87) 0 [.int (nI n2), .ref (a 88), .ref (a 89), .ref (a 90), .ref (a 91), .int 0]) := ⟨_, rfl⟩
  refine x_put C (ci := 0) (k := 5) (ty := .int) 87 k1 rfl in_X0 tyX0 tyX0_ok nmX0 (by decide) w_300 rfl rfl rfl rfl (Nat.le_of_ble_eq_true rfl) hw7.symm dX0_read_2 rfl ?_
  have hW8 : WX (okX E a) w6 := by rw [hw7]; exact hW.set (k := 87) rfl ⟨n2, 0, by omega, by omega, rfl⟩
  have k9 : w6[87]? = some (ob (a 87) 0 [.int (nI n2), .ref (a 88), .ref (a 89), .ref (a 90), .ref (a 91), .int 0]) := by rw [hw7]; exact set_eq k1
  have kp10 := keeps_set kp0 hw7 (by first | exact rfl | decide | omega | (dsimp only; omega))
  refine x_aload_n C dX0_read_5 rfl 0 rfl rfl ?_
  refine x_iconst C (v := 0) dX0_read_6 (by decide) rfl ?_
  obtain ⟨w11, hw12⟩ : ∃ w : va_W, w = List.set w6 87 (ob (a 87) 0 [.int 0, .ref (a 88), .ref (a 89), .ref (a 90), .ref (a 91), .int 0]) := ⟨_, rfl⟩
  refine x_put C (ci := 0) (k := 0) (ty := .int) 87 k9 rfl in_X0 tyX0 tyX0_ok nmX0 (by decide) w_294 rfl rfl rfl rfl (Nat.le_of_ble_eq_true rfl) hw12.symm dX0_read_7 rfl ?_
  have hW13 : WX (okX E a) w11 := by rw [hw12]; exact hW8.set (k := 87) rfl ⟨0, 0, by omega, by omega, rfl⟩
  have k14 : w11[87]? = some (ob (a 87) 0 [.int 0, .ref (a 88), .ref (a 89), .ref (a 90), .ref (a 91), .int 0]) := by rw [hw12]; exact set_eq k9
  have kp15 := keeps_set kp10 hw12 (by first | exact rfl | decide | omega | (dsimp only; omega))
  refine x_iconst C (v := 0) dX0_read_10 (by decide) rfl ?_
  refine x_istore_n C (lv' := [(2, .int 0), (0, .ref (a 87)), (1, .ref (a 1))]) dX0_read_11 rfl (by decide) rfl rfl ?_
  have loop12 : ∀ (fu12 : Nat) (k : Nat) (wl12 : va_W), WX (okX E a) wl12 → 25 - k < fu12 → k ≤ 25 → keeps ws wl12 (fun q => (q = 1 ∨ q = 2) ∨ (87 ≤ q ∧ q < 92)) → X E p l e (xRm 5 0 0) s m ([.ref (a 87), .ref (a 1)] : List Value).toArray below meth c A 3 0 0 (MQ below (va_Qi (fun r w => WX (okX E a) w ∧ keeps ws w (fun q => (q = 1 ∨ q = 2) ∨ (87 ≤ q ∧ q < 92)) ∧ zb r) (xB E A) A) ([.ref (a 87), .ref (a 1)] : List Value).toArray s 0 0 A) wl12 12 [(0, .ref (a 87)), (1, .ref (a 1)), (2, .int (nI k))] [] := by
    intro fu12
    induction fu12 with
    | zero => intro k wl12 _ q; omega
    | succ fu12 ih12 =>
      intro k wl12 hWl12 me12 iv12_0 kq12
      refine x_iload_n C dX0_read_12 rfl 2 rfl rfl ?_
      refine x_bipush C (v := 24) dX0_read_13 (by decide) rfl ?_
      refine x_icmp_gt C (tgt := 56) dX0_read_15 (by decide) rfl (fun c16 => ?_) (fun c16 => ?_)
      · skip
        have nf17 := nI_lt' (a := 24) (b := k) c16 (by omega) (by omega)
        refine x_aload_n C dX0_read_56 rfl 1 rfl rfl ?_
        refine x_iconst C (v := 4) dX0_read_57 (by decide) rfl ?_
        obtain ⟨_, k18, n19, v21, v22, v23, bn20, rfl⟩ := hWl12 1 _ rfl
        refine x_vi C (As := [.int 4]) (rest := []) (c_fails E l a wl12 hWl12 (4 : Int32)) mf_X8_fails w_678 1 k18 rfl rfl rfl (Nat.le_of_ble_eq_true rfl) ⟨(Nat.le_of_ble_eq_true rfl), (Nat.le_of_ble_eq_true rfl)⟩ ⟨(Nat.le_of_ble_eq_true rfl), (Nat.le_of_ble_eq_true rfl)⟩ dX0_read_58 rfl (fun r25 w26 h24 => ?_)
        obtain ⟨hW27, kq28, zb29⟩ := h24
        have kp30 := keeps_tr kq12 kq28 (fun q hq => by first | omega | (dsimp only at *; omega))
        exact x_zret C hr hlk (zb_nar zb29) dX0_read_61 ⟨hW27, kp30, zb29⟩
      · skip
        have nf31 := nI_nlt' (a := 24) (b := k) c16 (by omega) (by omega)
        refine x_aload_n C dX0_read_18 rfl 0 rfl rfl ?_
        refine x_aload_n C dX0_read_19 rfl 1 rfl rfl ?_
        refine x_iload_n C dX0_read_20 rfl 2 rfl rfl ?_
        obtain ⟨_, k32, n33, n35, bn34, bn36, rfl⟩ := hWl12 87 _ rfl
        refine x_vi C (As := [.ref (a 1), .int (nI k)]) (rest := []) (c_line E l a wl12 hWl12 ((nI k))) mf_X0_line w_672 87 k32 rfl rfl rfl (Nat.le_of_ble_eq_true rfl) ⟨(Nat.le_of_ble_eq_true rfl), (Nat.le_of_ble_eq_true rfl)⟩ ⟨(Nat.le_of_ble_eq_true rfl), (Nat.le_of_ble_eq_true rfl)⟩ dX0_read_21 rfl (fun r38 w39 h37 => ?_)
        obtain ⟨hW40, kq41, zb42⟩ := h37
        have kp43 := keeps_tr kq12 kq41 (fun q hq => by first | omega | (dsimp only at *; omega))
        refine x_if_ne C (tgt := 29) dX0_read_24 (by decide) rfl (fun c44 => ?_) (fun c44 => ?_)
        · skip
          refine x_aload_n C dX0_read_29 rfl 1 rfl rfl ?_
          obtain ⟨_, k45, n46, v48, v49, v50, bn47, rfl⟩ := hW40 1 _ rfl
          refine x_vi C (As := []) (rest := []) (c_signE E l a w39 hW40) mf_X8_sign w_676 1 k45 rfl rfl rfl (Nat.le_of_ble_eq_true rfl) ⟨(Nat.le_of_ble_eq_true rfl), (Nat.le_of_ble_eq_true rfl)⟩ ⟨(Nat.le_of_ble_eq_true rfl), (Nat.le_of_ble_eq_true rfl)⟩ dX0_read_30 rfl (fun r52 w53 h51 => ?_)
          obtain ⟨hW55, x54⟩ := h51
          refine x_top x54 (x_ws hW55 ?_)
          refine x_iconst C (v := (-1)) dX0_read_33 (by decide) rfl ?_
          refine x_icmp_ne C (tgt := 39) dX0_read_34 (by decide) rfl (fun c56 => ?_) (fun c56 => ?_)
          · skip
            refine x_aload_n C dX0_read_39 rfl 1 rfl rfl ?_
            refine x_bipush C (v := 44) dX0_read_40 (by decide) rfl ?_
            refine x_vi C (As := [.int 44]) (rest := []) (c_takes E l a w39 hW40 (44 : Int32)) mf_X8_takes w_691 1 k45 rfl rfl rfl (Nat.le_of_ble_eq_true rfl) ⟨(Nat.le_of_ble_eq_true rfl), (Nat.le_of_ble_eq_true rfl)⟩ ⟨(Nat.le_of_ble_eq_true rfl), (Nat.le_of_ble_eq_true rfl)⟩ dX0_read_42 rfl (fun r58 w59 h57 => ?_)
            obtain ⟨hW60, kq61, zb62⟩ := h57
            have kp63 := keeps_tr kp43 kq61 (fun q hq => by first | omega | (dsimp only at *; omega))
            refine x_if_ne C (tgt := 50) dX0_read_45 (by decide) rfl (fun c64 => ?_) (fun c64 => ?_)
            · skip
              refine x_iinc C (v := (nI (k + 1))) (lv' := [(2, .int (nI (k + 1))), (0, .ref (a 87)), (1, .ref (a 1))]) dX0_read_50 2 rfl (nI_add k 1) (by decide) rfl rfl ?_
              refine x_goto C (tgt := 12) dX0_read_53 (by decide) ?_
              refine x_lv (lv1 := [(0, .ref (a 87)), (1, .ref (a 1)), (2, .int (nI (k + 1)))]) [1, 2, 0] rfl ?_
              exact ih12 (k + 1) w59 hW60 (by omega) (by omega) kp63
            · skip
              refine x_iconst C (v := 0) dX0_read_48 (by decide) rfl ?_
              exact x_zret C hr hlk rfl dX0_read_49 ⟨hW60, kp63, (Or.inl rfl)⟩
          · skip
            refine x_iconst C (v := 1) dX0_read_37 (by decide) rfl ?_
            exact x_zret C hr hlk rfl dX0_read_38 ⟨hW40, kp43, (Or.inr rfl)⟩
        · skip
          refine x_iconst C (v := 0) dX0_read_27 (by decide) rfl ?_
          exact x_zret C hr hlk rfl dX0_read_28 ⟨hW40, kp43, (Or.inl rfl)⟩
  refine x_lv (lv1 := [(0, .ref (a 87)), (1, .ref (a 1)), (2, .int 0)]) [1, 2, 0] rfl ?_
  exact loop12 _ 0 w11 hW13 (Nat.lt_succ_self _) (by omega) kp15
