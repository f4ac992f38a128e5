def uL (k : Int32) (x y : Lb) : Lb := if k = 0 then x else y
theorem uL_t {k : Int32} {x y : Lb} (h : k = 0) : uL k x y = x := if_pos h
theorem uL_f {k : Int32} {x y : Lb} (h : ¬ k = 0) : uL k x y = y := if_neg h
theorem uL_some (k P H Pk Hk : Int32) : uL k (some (P, H)) (some (Pk, Hk)) = some (uT k P Pk, uT k H Hk) := by
  by_cases h : k = 0
  · rw [uL_t h, uT_t h, uT_t h]
  · rw [uL_f h, uT_f h, uT_f h]
theorem wxK {E : xE} {a : Nat → Nat} {cd : Cd} {kf k2 : Int32} {jn js jq : Lb} {w : va_W} {c0 c1 : Nat × va_E} (h : WX (okM E a cd kf jn js jq) w) (h1 : w[0]? = some c1) (h0 : ∀ P : Nat × va_E → Prop, (okM E a cd k2 jn js jq)[0]? = some P → P c0) : ∀ (k : Nat) (P : Nat × va_E → Prop), (okM E a cd k2 jn js jq)[k]? = some P → ∃ c, (List.set w 0 c0)[k]? = some c ∧ P c
  | 0, _, hP => ⟨_, set_eq h1, h0 _ hP⟩
  | 1, _, hP => by
    obtain ⟨c, hc, hp⟩ := h 1 _ rfl
    exact ⟨c, set_ne hc (by decide), some_at hP rfl hp⟩
  | 2, _, hP => by
    obtain ⟨c, hc, hp⟩ := h 2 _ rfl
    exact ⟨c, set_ne hc (by decide), some_at hP rfl hp⟩
  | 3, _, hP => by
    obtain ⟨c, hc, hp⟩ := h 3 _ rfl
    exact ⟨c, set_ne hc (by decide), some_at hP rfl hp⟩
  | 4, _, hP => by
    obtain ⟨c, hc, hp⟩ := h 4 _ rfl
    exact ⟨c, set_ne hc (by decide), some_at hP rfl hp⟩
  | 5, _, hP => by
    obtain ⟨c, hc, hp⟩ := h 5 _ rfl
    exact ⟨c, set_ne hc (by decide), some_at hP rfl hp⟩
  | 6, _, hP => by
    obtain ⟨c, hc, hp⟩ := h 6 _ rfl
    exact ⟨c, set_ne hc (by decide), some_at hP rfl hp⟩
  | 7, _, hP => by
    obtain ⟨c, hc, hp⟩ := h 7 _ rfl
    exact ⟨c, set_ne hc (by decide), some_at hP rfl hp⟩
  | 8, _, hP => by
    obtain ⟨c, hc, hp⟩ := h 8 _ rfl
    exact ⟨c, set_ne hc (by decide), some_at hP rfl hp⟩
  | 9, _, hP => by
    obtain ⟨c, hc, hp⟩ := h 9 _ rfl
    exact ⟨c, set_ne hc (by decide), some_at hP rfl hp⟩
  | 10, _, hP => by
    obtain ⟨c, hc, hp⟩ := h 10 _ rfl
    exact ⟨c, set_ne hc (by decide), some_at hP rfl hp⟩
  | 11, _, hP => by
    obtain ⟨c, hc, hp⟩ := h 11 _ rfl
    exact ⟨c, set_ne hc (by decide), some_at hP rfl hp⟩
  | 12, _, hP => by
    obtain ⟨c, hc, hp⟩ := h 12 _ rfl
    exact ⟨c, set_ne hc (by decide), some_at hP rfl hp⟩
  | 13, _, hP => by
    obtain ⟨c, hc, hp⟩ := h 13 _ rfl
    exact ⟨c, set_ne hc (by decide), some_at hP rfl hp⟩
  | 14, _, hP => by
    obtain ⟨c, hc, hp⟩ := h 14 _ rfl
    exact ⟨c, set_ne hc (by decide), some_at hP rfl hp⟩
  | 15, _, hP => by
    obtain ⟨c, hc, hp⟩ := h 15 _ rfl
    exact ⟨c, set_ne hc (by decide), some_at hP rfl hp⟩
  | 16, _, hP => by
    obtain ⟨c, hc, hp⟩ := h 16 _ rfl
    exact ⟨c, set_ne hc (by decide), some_at hP rfl hp⟩
  | 17, _, hP => by
    obtain ⟨c, hc, hp⟩ := h 17 _ rfl
    exact ⟨c, set_ne hc (by decide), some_at hP rfl hp⟩
  | 18, _, hP => by
    obtain ⟨c, hc, hp⟩ := h 18 _ rfl
    exact ⟨c, set_ne hc (by decide), some_at hP rfl hp⟩
  | 19, _, hP => by
    obtain ⟨c, hc, hp⟩ := h 19 _ rfl
    exact ⟨c, set_ne hc (by decide), some_at hP rfl hp⟩
  | 20, _, hP => by
    obtain ⟨c, hc, hp⟩ := h 20 _ rfl
    exact ⟨c, set_ne hc (by decide), some_at hP rfl hp⟩
  | 21, _, hP => by
    obtain ⟨c, hc, hp⟩ := h 21 _ rfl
    exact ⟨c, set_ne hc (by decide), some_at hP rfl hp⟩
  | 22, _, hP => by
    obtain ⟨c, hc, hp⟩ := h 22 _ rfl
    exact ⟨c, set_ne hc (by decide), some_at hP rfl hp⟩
  | 23, _, hP => by
    obtain ⟨c, hc, hp⟩ := h 23 _ rfl
    exact ⟨c, set_ne hc (by decide), some_at hP rfl hp⟩
  | 24, _, hP => by
    obtain ⟨c, hc, hp⟩ := h 24 _ rfl
    exact ⟨c, set_ne hc (by decide), some_at hP rfl hp⟩
  | 25, _, hP => by
    obtain ⟨c, hc, hp⟩ := h 25 _ rfl
    exact ⟨c, set_ne hc (by decide), some_at hP rfl hp⟩
  | 26, _, hP => by
    obtain ⟨c, hc, hp⟩ := h 26 _ rfl
    exact ⟨c, set_ne hc (by decide), some_at hP rfl hp⟩
  | 27, _, hP => by
    obtain ⟨c, hc, hp⟩ := h 27 _ rfl
    exact ⟨c, set_ne hc (by decide), some_at hP rfl hp⟩
  | 28, _, hP => by
    obtain ⟨c, hc, hp⟩ := h 28 _ rfl
    exact ⟨c, set_ne hc (by decide), some_at hP rfl hp⟩
  | 29, _, hP => by
    obtain ⟨c, hc, hp⟩ := h 29 _ rfl
    exact ⟨c, set_ne hc (by decide), some_at hP rfl hp⟩
  | 30, _, hP => by
    obtain ⟨c, hc, hp⟩ := h 30 _ rfl
    exact ⟨c, set_ne hc (by decide), some_at hP rfl hp⟩
  | n + 31, P, hP => absurd (show (none : Option (Nat × va_E → Prop)) = some P from hP) (fun q => by cases q)
set_option maxRecDepth 20000 in
set_option maxHeartbeats 4000000 in
theorem m_isPersonX (E : xE) (l : Launch) (a : Nat → Nat) (cd : Cd) (hG : Good cd) (kf : Int32) (jn js jq : Lb) (ws : va_W) (hW : WX (okM E a cd kf jn js jq) ws) (p0 : Int32) (fn : Nat → Int32) (hfn : ws[1]? = some (iA E (a 1) 382 fn)) : xI E l yX12_isPerson cX12_isPerson 2 (some .boolean) 1 [.ref (a 0), .int p0] ws (fun r w => w = ws ∧ zb r ∧ ((¬ r = 0 ∧ inb (fn 320) p0) ∨ (r = 0 ∧ ¬ inb (fn 320) p0))) := by
  refine xI_start (lv := [(0, .ref (a 0)), (1, .int p0)]) RX12 (by decide) rfl (Nat.le_of_ble_eq_true rfl) rfl (fun p e s m below meth c A C hr hlk => ?_)
  obtain ⟨_, kq1, fq, pfq, rfl⟩ := hW 1 _ rfl
  obtain rfl := iA_inj (hfn.symm.trans kq1)
  refine x_iload_n C dX12_isPerson_0 rfl 1 rfl rfl ?_
  refine x_if_lt C (tgt := 29) dX12_isPerson_1 (by decide) rfl (fun c1 => ?_) (fun c1 => ?_)
  · skip
    refine x_iconst C (v := 0) dX12_isPerson_29 (by decide) rfl ?_
    exact x_zret C hr hlk rfl dX12_isPerson_30 ⟨rfl, (Or.inl rfl), (Or.inr ⟨rfl, fun q => q.1.1 c1⟩)⟩
  · skip
    obtain ⟨j2, hj3, ej4⟩ := nI_of c1
    subst ej4
    refine x_iload_n C dX12_isPerson_4 rfl 1 rfl rfl ?_
    refine x_bipush C (v := 8) dX12_isPerson_5 (by decide) rfl ?_
    refine x_icmp_ge C (tgt := 29) dX12_isPerson_7 (by decide) rfl (fun c5 => ?_) (fun c5 => ?_)
    · skip
      have nf6 := nI_le' (a := 8) (b := j2) c5 (by omega) (by omega)
      refine x_iconst C (v := 0) dX12_isPerson_29 (by decide) rfl ?_
      exact x_zret C hr hlk rfl dX12_isPerson_30 ⟨rfl, (Or.inl rfl), (Or.inr ⟨rfl, fun q => wth_hi (by omega) (by omega) q.1⟩)⟩
    · skip
      have nf7 := nI_nle' (a := 8) (b := j2) c5 (by omega) (by omega)
      refine x_aload_n C dX12_isPerson_10 rfl 0 rfl rfl ?_
      obtain ⟨_, k8, n9, n11, n13, v15, v16, v17, n18, n20, n22, n24, v26, v27, v28, v29, n30, n32, bn10, bn12, bn14, bn19, bn21, bn23, bn25, bn31, bn33, rfl⟩ := hW 0 _ rfl
      refine x_get C (ci := 11) (k := 0) 0 k8 rfl in_X12 (by decide) w_1118 rfl dX12_isPerson_11 rfl ?_
      refine x_sipush C (v := 320) dX12_isPerson_14 (by decide) rfl ?_
      refine x_ialk C (v := (fn 320)) 320 (by decide) (by decide) (by decide) 1 hfn rfl dX12_isPerson_17 rfl ?_
      refine x_iload_n C dX12_isPerson_18 rfl 1 rfl rfl ?_
      refine x_si C (As := [.int (fn 320), .int (nI j2)]) (rest := []) (m_has E l a cd hG kf jn js jq ws hW ((fn 320)) ((nI j2))) mf_X12_has w_1274 rfl rfl (Nat.le_of_ble_eq_true rfl) ⟨(Nat.le_of_ble_eq_true rfl), (Nat.le_of_ble_eq_true rfl)⟩ ⟨(Nat.le_of_ble_eq_true rfl), (Nat.le_of_ble_eq_true rfl)⟩ dX12_isPerson_19 rfl (fun r35 w36 h34 => ?_)
      obtain ⟨hW37, zb38, x39⟩ := h34
      refine x_ws hW37 ?_
      refine x_if_eq C (tgt := 29) dX12_isPerson_22 (by decide) rfl (fun c40 => ?_) (fun c40 => ?_)
      · skip
        refine x_iconst C (v := 0) dX12_isPerson_29 (by decide) rfl ?_
        exact x_zret C hr hlk rfl dX12_isPerson_30 ⟨rfl, (Or.inl rfl), (Or.inr ⟨rfl, fun q => x39.mpr q.2 c40⟩)⟩
      · skip
        refine x_iconst C (v := 1) dX12_isPerson_25 (by decide) rfl ?_
        refine x_goto C (tgt := 30) dX12_isPerson_26 (by decide) ?_
        exact x_zret C hr hlk rfl dX12_isPerson_30 ⟨rfl, (Or.inr rfl), (Or.inl ⟨by decide, wth_lo (by omega), x39.mp c40⟩)⟩
set_option maxRecDepth 20000 in
set_option maxHeartbeats 4000000 in
theorem m_isHenX (E : xE) (l : Launch) (a : Nat → Nat) (cd : Cd) (hG : Good cd) (kf : Int32) (jn js jq : Lb) (ws : va_W) (hW : WX (okM E a cd kf jn js jq) ws) (p0 : Int32) (fn : Nat → Int32) (hfn : ws[1]? = some (iA E (a 1) 382 fn)) : xI E l yX12_isHen cX12_isHen 2 (some .boolean) 1 [.ref (a 0), .int p0] ws (fun r w => w = ws ∧ zb r ∧ ((¬ r = 0 ∧ inb (fn 337) p0) ∨ (r = 0 ∧ ¬ inb (fn 337) p0))) := by
  refine xI_start (lv := [(0, .ref (a 0)), (1, .int p0)]) RX12 (by decide) rfl (Nat.le_of_ble_eq_true rfl) rfl (fun p e s m below meth c A C hr hlk => ?_)
  obtain ⟨_, kq1, fq, pfq, rfl⟩ := hW 1 _ rfl
  obtain rfl := iA_inj (hfn.symm.trans kq1)
  refine x_iload_n C dX12_isHen_0 rfl 1 rfl rfl ?_
  refine x_if_lt C (tgt := 29) dX12_isHen_1 (by decide) rfl (fun c1 => ?_) (fun c1 => ?_)
  · skip
    refine x_iconst C (v := 0) dX12_isHen_29 (by decide) rfl ?_
    exact x_zret C hr hlk rfl dX12_isHen_30 ⟨rfl, (Or.inl rfl), (Or.inr ⟨rfl, fun q => q.1.1 c1⟩)⟩
  · skip
    obtain ⟨j2, hj3, ej4⟩ := nI_of c1
    subst ej4
    refine x_iload_n C dX12_isHen_4 rfl 1 rfl rfl ?_
    refine x_bipush C (v := 8) dX12_isHen_5 (by decide) rfl ?_
    refine x_icmp_ge C (tgt := 29) dX12_isHen_7 (by decide) rfl (fun c5 => ?_) (fun c5 => ?_)
    · skip
      have nf6 := nI_le' (a := 8) (b := j2) c5 (by omega) (by omega)
      refine x_iconst C (v := 0) dX12_isHen_29 (by decide) rfl ?_
      exact x_zret C hr hlk rfl dX12_isHen_30 ⟨rfl, (Or.inl rfl), (Or.inr ⟨rfl, fun q => wth_hi (by omega) (by omega) q.1⟩)⟩
    · skip
      have nf7 := nI_nle' (a := 8) (b := j2) c5 (by omega) (by omega)
      refine x_aload_n C dX12_isHen_10 rfl 0 rfl rfl ?_
      obtain ⟨_, k8, n9, n11, n13, v15, v16, v17, n18, n20, n22, n24, v26, v27, v28, v29, n30, n32, bn10, bn12, bn14, bn19, bn21, bn23, bn25, bn31, bn33, rfl⟩ := hW 0 _ rfl
      refine x_get C (ci := 11) (k := 0) 0 k8 rfl in_X12 (by decide) w_1118 rfl dX12_isHen_11 rfl ?_
      refine x_sipush C (v := 337) dX12_isHen_14 (by decide) rfl ?_
      refine x_ialk C (v := (fn 337)) 337 (by decide) (by decide) (by decide) 1 hfn rfl dX12_isHen_17 rfl ?_
      refine x_iload_n C dX12_isHen_18 rfl 1 rfl rfl ?_
      refine x_si C (As := [.int (fn 337), .int (nI j2)]) (rest := []) (m_has E l a cd hG kf jn js jq ws hW ((fn 337)) ((nI j2))) mf_X12_has w_1274 rfl rfl (Nat.le_of_ble_eq_true rfl) ⟨(Nat.le_of_ble_eq_true rfl), (Nat.le_of_ble_eq_true rfl)⟩ ⟨(Nat.le_of_ble_eq_true rfl), (Nat.le_of_ble_eq_true rfl)⟩ dX12_isHen_19 rfl (fun r35 w36 h34 => ?_)
      obtain ⟨hW37, zb38, x39⟩ := h34
      refine x_ws hW37 ?_
      refine x_if_eq C (tgt := 29) dX12_isHen_22 (by decide) rfl (fun c40 => ?_) (fun c40 => ?_)
      · skip
        refine x_iconst C (v := 0) dX12_isHen_29 (by decide) rfl ?_
        exact x_zret C hr hlk rfl dX12_isHen_30 ⟨rfl, (Or.inl rfl), (Or.inr ⟨rfl, fun q => x39.mpr q.2 c40⟩)⟩
      · skip
        refine x_iconst C (v := 1) dX12_isHen_25 (by decide) rfl ?_
        refine x_goto C (tgt := 30) dX12_isHen_26 (by decide) ?_
        exact x_zret C hr hlk rfl dX12_isHen_30 ⟨rfl, (Or.inr rfl), (Or.inl ⟨by decide, wth_lo (by omega), x39.mp c40⟩)⟩
set_option maxRecDepth 20000 in
set_option maxHeartbeats 4000000 in
theorem m_inJ (E : xE) (l : Launch) (a : Nat → Nat) (cd : Cd) (hG : Good cd) (kf : Int32) (jn js jq : Lb) (ws : va_W) (hW : WX (okM E a cd kf jn js jq) ws) (v : Int32) (lo : Int32) (hi : Int32) : xI E l yX12_in cX12_in 3 (some .boolean) 0 [.int v, .int lo, .int hi] ws (fun r w => w = ws ∧ zb r ∧ ((¬ r = 0 ∧ wth v lo hi) ∨ (r = 0 ∧ ¬ wth v lo hi))) := by
  refine xI_start (lv := [(0, .int v), (1, .int lo), (2, .int hi)]) RX12 (by decide) rfl (Nat.le_of_ble_eq_true rfl) rfl (fun p e s m below meth c A C hr hlk => ?_)
  refine x_iload_n C dX12_in_0 rfl 0 rfl rfl ?_
  refine x_iload_n C dX12_in_1 rfl 1 rfl rfl ?_
  refine x_icmp_lt C (tgt := 14) dX12_in_2 (by decide) rfl (fun c1 => ?_) (fun c1 => ?_)
  · skip
    refine x_iconst C (v := 0) dX12_in_14 (by decide) rfl ?_
    exact x_zret C hr hlk rfl dX12_in_15 ⟨rfl, (Or.inl rfl), (Or.inr ⟨rfl, fun q => q.1 c1⟩)⟩
  · skip
    refine x_iload_n C dX12_in_5 rfl 0 rfl rfl ?_
    refine x_iload_n C dX12_in_6 rfl 2 rfl rfl ?_
    refine x_icmp_gt C (tgt := 14) dX12_in_7 (by decide) rfl (fun c2 => ?_) (fun c2 => ?_)
    · skip
      refine x_iconst C (v := 0) dX12_in_14 (by decide) rfl ?_
      exact x_zret C hr hlk rfl dX12_in_15 ⟨rfl, (Or.inl rfl), (Or.inr ⟨rfl, fun q => q.2 c2⟩)⟩
    · skip
      refine x_iconst C (v := 1) dX12_in_10 (by decide) rfl ?_
      refine x_goto C (tgt := 15) dX12_in_11 (by decide) ?_
      exact x_zret C hr hlk rfl dX12_in_15 ⟨rfl, (Or.inr rfl), (Or.inl ⟨by decide, ⟨c1, c2⟩⟩)⟩
theorem dX12_person_0 : decode cX12_person 0 = .ok (.iload_n 1, 1) := by decide +kernel
theorem dX12_person_1 : decode cX12_person 1 = .ok (.iconst 0, 1) := by decide +kernel
theorem dX12_person_2 : decode cX12_person 2 = .ok (.bipush 7, 2) := by decide +kernel
theorem dX12_person_4 : decode cX12_person 4 = .ok (.invokestatic 109, 3) := by decide +kernel
theorem dX12_person_7 : decode cX12_person 7 = .ok (.ifCond .eq 11, 3) := by decide +kernel
theorem dX12_person_10 : decode cX12_person 10 = .ok (.aload_n 0, 1) := by decide +kernel
theorem dX12_person_11 : decode cX12_person 11 = .ok (.iload_n 1, 1) := by decide +kernel
theorem dX12_person_12 : decode cX12_person 12 = .ok (.invokevirtual 113, 3) := by decide +kernel
theorem dX12_person_15 : decode cX12_person 15 = .ok (.ifCond .eq 5, 3) := by decide +kernel
theorem dX12_person_18 : decode cX12_person 18 = .ok (.iconst 0, 1) := by decide +kernel
theorem dX12_person_19 : decode cX12_person 19 = .ok (.ireturn, 1) := by decide +kernel
theorem dX12_person_20 : decode cX12_person 20 = .ok (.aload_n 0, 1) := by decide +kernel
theorem dX12_person_21 : decode cX12_person 21 = .ok (.getfield 7, 3) := by decide +kernel
theorem dX12_person_24 : decode cX12_person 24 = .ok (.sipush 320, 3) := by decide +kernel
theorem dX12_person_27 : decode cX12_person 27 = .ok (.aload_n 0, 1) := by decide +kernel
theorem dX12_person_28 : decode cX12_person 28 = .ok (.getfield 7, 3) := by decide +kernel
theorem dX12_person_31 : decode cX12_person 31 = .ok (.sipush 320, 3) := by decide +kernel
theorem dX12_person_34 : decode cX12_person 34 = .ok (.iaload, 1) := by decide +kernel
theorem dX12_person_35 : decode cX12_person 35 = .ok (.iconst 1, 1) := by decide +kernel
theorem dX12_person_36 : decode cX12_person 36 = .ok (.iload_n 1, 1) := by decide +kernel
theorem dX12_person_37 : decode cX12_person 37 = .ok (.ishl, 1) := by decide +kernel
theorem dX12_person_38 : decode cX12_person 38 = .ok (.ior, 1) := by decide +kernel
theorem dX12_person_39 : decode cX12_person 39 = .ok (.iastore, 1) := by decide +kernel
theorem dX12_person_40 : decode cX12_person 40 = .ok (.iconst 1, 1) := by decide +kernel
theorem dX12_person_41 : decode cX12_person 41 = .ok (.ireturn, 1) := by decide +kernel
set_option maxRecDepth 20000 in
set_option maxHeartbeats 4000000 in
theorem m_personX (E : xE) (l : Launch) (a : Nat → Nat) (cd : Cd) (hG : Good cd) (kf : Int32) (jn js jq : Lb) (P H : Int32) (ws : va_W) (hW : WX (okM E a cd kf (some (P, H)) js jq) ws) (p0 : Int32) : xI E l yX12_person cX12_person 2 (some .boolean) 8 [.ref (a 0), .int p0] ws (fun r w => WX (okM E a cd kf (some (pT P p0, H)) js jq) w ∧ zb r ∧ (r = bI (pC P p0))) := by
  refine xI_start (lv := [(0, .ref (a 0)), (1, .int p0)]) RX12 (by decide) rfl (Nat.le_of_ble_eq_true rfl) rfl (fun p e s m below meth c A C hr hlk => ?_)
  obtain ⟨_, k1, f2, pf3, rfl⟩ := hW 1 _ rfl
  have hP0 := NB_P pf3
  have hH0 := NB_H pf3
  have pfw := NB_w pf3
  have hW0 := wxW_n hW
  refine x_iload_n C dX12_person_0 rfl 1 rfl rfl ?_
  refine x_iconst C (v := 0) dX12_person_1 (by decide) rfl ?_
  refine x_bipush C (v := 7) dX12_person_2 (by decide) rfl ?_
  refine x_si C (As := [.int p0, .int 0, .int 7]) (rest := []) (m_inJ E l a cd hG kf none js jq ws hW0 p0 (0 : Int32) (7 : Int32)) mf_X12_in w_1267 rfl rfl (Nat.le_of_ble_eq_true rfl) ⟨(Nat.le_of_ble_eq_true rfl), (Nat.le_of_ble_eq_true rfl)⟩ ⟨(Nat.le_of_ble_eq_true rfl), (Nat.le_of_ble_eq_true rfl)⟩ dX12_person_4 rfl (fun r5 w6 h4 => ?_)
  obtain ⟨hW7, zb8, x9⟩ := h4
  refine x_ws hW7 ?_
  rcases x9 with ⟨hn10, hw11⟩ | ⟨e12, hw13⟩
  · skip
    obtain ⟨j14, hl15, hh16, ej17⟩ := w_nat (a := 0) (b := 7) (by decide) (by decide) hw11
    subst ej17
    refine x_if_eq C (tgt := 18) dX12_person_7 (by decide) rfl (fun h => absurd h hn10) (fun _ => ?_)
    refine x_aload_n C dX12_person_10 rfl 0 rfl rfl ?_
    refine x_iload_n C dX12_person_11 rfl 1 rfl rfl ?_
    obtain ⟨_, k18, n19, n21, n23, v25, v26, v27, n28, n30, n32, n34, v36, v37, v38, v39, n40, n42, bn20, bn22, bn24, bn29, bn31, bn33, bn35, bn41, bn43, rfl⟩ := hW0 0 _ rfl
    refine x_vi C (As := [.int (nI j14)]) (rest := []) (m_isPersonX E l a cd hG kf none js jq ws hW0 ((nI j14)) f2 k1) mf_X12_isPerson w_1270 0 k18 rfl rfl rfl (Nat.le_of_ble_eq_true rfl) ⟨(Nat.le_of_ble_eq_true rfl), (Nat.le_of_ble_eq_true rfl)⟩ ⟨(Nat.le_of_ble_eq_true rfl), (Nat.le_of_ble_eq_true rfl)⟩ dX12_person_12 rfl (fun r45 w46 h44 => ?_)
    obtain ⟨hW47, zb48, x49⟩ := h44
    refine x_ws hW47 ?_
    rw [hP0] at x49
    rcases x49 with ⟨hn50, hw51⟩ | ⟨e52, hw53⟩
    · skip
      refine x_if_eq C (tgt := 20) dX12_person_15 (by decide) rfl (fun h => absurd h hn50) (fun _ => ?_)
      refine x_iconst C (v := 0) dX12_person_18 (by decide) rfl ?_
      exact x_zret C hr hlk rfl dX12_person_19 ⟨(wxL_n hW0 ⟨_, NB_lab pfw (by rw [pT_f (P := P) (p := (nI j14)) (fun q => q.2 hw51)]; exact hP0) hH0, k1⟩), (Or.inl rfl), (bI_f (P := pC P (nI j14)) (fun q => q.2 hw51)).symm⟩
    · refine x_top e52 ?_
      refine x_if_eq C (tgt := 20) dX12_person_15 (by decide) rfl (fun _ => ?_) (fun h => absurd h (by decide))
      refine x_aload_n C dX12_person_20 rfl 0 rfl rfl ?_
      refine x_get C (ci := 11) (k := 0) 0 k18 rfl in_X12 (by decide) w_1118 rfl dX12_person_21 rfl ?_
      refine x_sipush C (v := 320) dX12_person_24 (by decide) rfl ?_
      refine x_aload_n C dX12_person_27 rfl 0 rfl rfl ?_
      refine x_get C (ci := 11) (k := 0) 0 k18 rfl in_X12 (by decide) w_1118 rfl dX12_person_28 rfl ?_
      refine x_sipush C (v := 320) dX12_person_31 (by decide) rfl ?_
      refine x_ialk C (v := (f2 320)) 320 (by decide) (by decide) (by decide) 1 k1 rfl dX12_person_34 rfl ?_
      refine x_iconst C (v := 1) dX12_person_35 (by decide) rfl ?_
      refine x_iload_n C dX12_person_36 rfl 1 rfl rfl ?_
      refine x_ishl C (v := ((1 : Int32) <<< ((nI j14) &&& 31))) dX12_person_37 rfl rfl ?_
      refine x_ior C (v := ((f2 320) ||| ((1 : Int32) <<< ((nI j14) &&& 31)))) dX12_person_38 rfl rfl ?_
      have pf54 : NB none (upd f2 320 ((f2 320) ||| ((1 : Int32) <<< ((nI j14) &&& 31)))) := NB_freeN pfw (by unfold bd; omega)
      obtain ⟨w55, hw56⟩ : ∃ w : va_W, w = List.set ws 1 (iA E (a 1) 382 (upd f2 320 ((f2 320) ||| ((1 : Int32) <<< ((nI j14) &&& 31))))) := ⟨_, rfl⟩
      refine x_iask C 320 (by decide) (by decide) (by decide) 1 k1 hw56.symm dX12_person_39 rfl ?_
      have hW57 : WX (okM E a cd kf none js jq) w55 := by rw [hw56]; exact hW0.set (k := 1) rfl ⟨_, pf54, rfl⟩
      have k58 : w55[1]? = some (iA E (a 1) 382 (upd f2 320 ((f2 320) ||| ((1 : Int32) <<< ((nI j14) &&& 31))))) := by rw [hw56]; exact set_eq k1
      have k59 : w55[0]? = some (ob (a 0) 11 [.ref (a 1), .ref (a 2), .ref (a 3), .ref (a 4), .int (nI n19), .int (nI n21), .int (nI n23), .int v25, .int v26, .int v27, .int (nI n28), .int (nI n30), .int (nI n32), .int (nI (cd.2.2.2.2.2)), .ref (a 5), .ref (a 6), .ref (a 7), .ref (a 8), .ref (a 9), .ref (a 10), .ref (a 11), .ref (a 12), .ref (a 13), .ref (a 14), .ref (a 15), .ref (a 16), .ref (a 17), .int (nI n34), .ref (a 18), .ref (a 19), .ref (a 20), .ref (a 21), .int v36, .int v37, .int v38, .int v39, .int (nI n40), .int (nI n42), .ref (a 22), .ref (a 23), .ref (a 24), .ref (a 25), .ref (a 26), .ref (a 27), .ref (a 28), .ref (a 29), .ref (a 30), .int kf]) := by rw [hw56]; exact set_ne k18 (by decide)
      refine x_iconst C (v := 1) dX12_person_40 (by decide) rfl ?_
      exact x_zret C hr hlk rfl dX12_person_41 ⟨(wxL_n hW57 ⟨_, NB_lab pf54 (by rw [pk_us, pT_t (P := P) (p := (nI j14)) ⟨hw11, hw53⟩, hP0]) (by rw [pk_un (by decide)]; exact hH0), k58⟩), (Or.inr rfl), (bI_t (P := pC P (nI j14)) ⟨hw11, hw53⟩).symm⟩
  · refine x_top e12 ?_
    refine x_if_eq C (tgt := 18) dX12_person_7 (by decide) rfl (fun _ => ?_) (fun h => absurd h (by decide))
    refine x_iconst C (v := 0) dX12_person_18 (by decide) rfl ?_
    exact x_zret C hr hlk rfl dX12_person_19 ⟨(wxL_n hW0 ⟨_, NB_lab pfw (by rw [pT_f (P := P) (p := p0) (fun q => hw13 q.1)]; exact hP0) hH0, k1⟩), (Or.inl rfl), (bI_f (P := pC P p0) (fun q => hw13 q.1)).symm⟩
theorem dX12_hen_0 : decode cX12_hen 0 = .ok (.iload_n 1, 1) := by decide +kernel
theorem dX12_hen_1 : decode cX12_hen 1 = .ok (.iconst 0, 1) := by decide +kernel
theorem dX12_hen_2 : decode cX12_hen 2 = .ok (.bipush 7, 2) := by decide +kernel
theorem dX12_hen_4 : decode cX12_hen 4 = .ok (.invokestatic 109, 3) := by decide +kernel
theorem dX12_hen_7 : decode cX12_hen 7 = .ok (.ifCond .eq 20, 3) := by decide +kernel
theorem dX12_hen_10 : decode cX12_hen 10 = .ok (.iload_n 2, 1) := by decide +kernel
theorem dX12_hen_11 : decode cX12_hen 11 = .ok (.iconst 0, 1) := by decide +kernel
theorem dX12_hen_12 : decode cX12_hen 12 = .ok (.iconst 3, 1) := by decide +kernel
theorem dX12_hen_13 : decode cX12_hen 13 = .ok (.invokestatic 109, 3) := by decide +kernel
theorem dX12_hen_16 : decode cX12_hen 16 = .ok (.ifCond .eq 11, 3) := by decide +kernel
theorem dX12_hen_19 : decode cX12_hen 19 = .ok (.aload_n 0, 1) := by decide +kernel
theorem dX12_hen_20 : decode cX12_hen 20 = .ok (.iload_n 3, 1) := by decide +kernel
theorem dX12_hen_21 : decode cX12_hen 21 = .ok (.invokevirtual 113, 3) := by decide +kernel
theorem dX12_hen_24 : decode cX12_hen 24 = .ok (.ifCond .ne 5, 3) := by decide +kernel
theorem dX12_hen_27 : decode cX12_hen 27 = .ok (.iconst 0, 1) := by decide +kernel
theorem dX12_hen_28 : decode cX12_hen 28 = .ok (.ireturn, 1) := by decide +kernel
theorem dX12_hen_29 : decode cX12_hen 29 = .ok (.aload_n 0, 1) := by decide +kernel
theorem dX12_hen_30 : decode cX12_hen 30 = .ok (.getfield 7, 3) := by decide +kernel
theorem dX12_hen_33 : decode cX12_hen 33 = .ok (.sipush 337, 3) := by decide +kernel
theorem dX12_hen_36 : decode cX12_hen 36 = .ok (.aload_n 0, 1) := by decide +kernel
theorem dX12_hen_37 : decode cX12_hen 37 = .ok (.getfield 7, 3) := by decide +kernel
theorem dX12_hen_40 : decode cX12_hen 40 = .ok (.sipush 337, 3) := by decide +kernel
theorem dX12_hen_43 : decode cX12_hen 43 = .ok (.iaload, 1) := by decide +kernel
theorem dX12_hen_44 : decode cX12_hen 44 = .ok (.iconst 1, 1) := by decide +kernel
theorem dX12_hen_45 : decode cX12_hen 45 = .ok (.iload_n 1, 1) := by decide +kernel
theorem dX12_hen_46 : decode cX12_hen 46 = .ok (.ishl, 1) := by decide +kernel
theorem dX12_hen_47 : decode cX12_hen 47 = .ok (.ior, 1) := by decide +kernel
theorem dX12_hen_48 : decode cX12_hen 48 = .ok (.iastore, 1) := by decide +kernel
theorem dX12_hen_49 : decode cX12_hen 49 = .ok (.aload_n 0, 1) := by decide +kernel
theorem dX12_hen_50 : decode cX12_hen 50 = .ok (.getfield 7, 3) := by decide +kernel
theorem dX12_hen_53 : decode cX12_hen 53 = .ok (.sipush 321, 3) := by decide +kernel
theorem dX12_hen_56 : decode cX12_hen 56 = .ok (.iload_n 1, 1) := by decide +kernel
theorem dX12_hen_57 : decode cX12_hen 57 = .ok (.iadd, 1) := by decide +kernel
theorem dX12_hen_58 : decode cX12_hen 58 = .ok (.iload_n 2, 1) := by decide +kernel
theorem dX12_hen_59 : decode cX12_hen 59 = .ok (.iastore, 1) := by decide +kernel
theorem dX12_hen_60 : decode cX12_hen 60 = .ok (.aload_n 0, 1) := by decide +kernel
theorem dX12_hen_61 : decode cX12_hen 61 = .ok (.getfield 7, 3) := by decide +kernel
theorem dX12_hen_64 : decode cX12_hen 64 = .ok (.sipush 329, 3) := by decide +kernel
theorem dX12_hen_67 : decode cX12_hen 67 = .ok (.iload_n 1, 1) := by decide +kernel
theorem dX12_hen_68 : decode cX12_hen 68 = .ok (.iadd, 1) := by decide +kernel
theorem dX12_hen_69 : decode cX12_hen 69 = .ok (.iload_n 3, 1) := by decide +kernel
theorem dX12_hen_70 : decode cX12_hen 70 = .ok (.iastore, 1) := by decide +kernel
theorem dX12_hen_71 : decode cX12_hen 71 = .ok (.iconst 1, 1) := by decide +kernel
theorem dX12_hen_72 : decode cX12_hen 72 = .ok (.ireturn, 1) := by decide +kernel
set_option maxRecDepth 20000 in
set_option maxHeartbeats 4000000 in
theorem m_henX (E : xE) (l : Launch) (a : Nat → Nat) (cd : Cd) (hG : Good cd) (kf : Int32) (jn js jq : Lb) (P H : Int32) (ws : va_W) (hW : WX (okM E a cd kf (some (P, H)) js jq) ws) (p0 : Int32) (p1 : Int32) (p2 : Int32) : xI E l yX12_hen cX12_hen 4 (some .boolean) 8 [.ref (a 0), .int p0, .int p1, .int p2] ws (fun r w => WX (okM E a cd kf (some (P, hT P H p0 p1 p2)) js jq) w ∧ zb r ∧ (r = bI (hC P p0 p1 p2))) := by
  refine xI_start (lv := [(0, .ref (a 0)), (1, .int p0), (2, .int p1), (3, .int p2)]) RX12 (by decide) rfl (Nat.le_of_ble_eq_true rfl) rfl (fun p e s m below meth c A C hr hlk => ?_)
  obtain ⟨_, k1, f2, pf3, rfl⟩ := hW 1 _ rfl
  have hP0 := NB_P pf3
  have hH0 := NB_H pf3
  have pfw := NB_w pf3
  have hW0 := wxW_n hW
  refine x_iload_n C dX12_hen_0 rfl 1 rfl rfl ?_
  refine x_iconst C (v := 0) dX12_hen_1 (by decide) rfl ?_
  refine x_bipush C (v := 7) dX12_hen_2 (by decide) rfl ?_
  refine x_si C (As := [.int p0, .int 0, .int 7]) (rest := []) (m_inJ E l a cd hG kf none js jq ws hW0 p0 (0 : Int32) (7 : Int32)) mf_X12_in w_1267 rfl rfl (Nat.le_of_ble_eq_true rfl) ⟨(Nat.le_of_ble_eq_true rfl), (Nat.le_of_ble_eq_true rfl)⟩ ⟨(Nat.le_of_ble_eq_true rfl), (Nat.le_of_ble_eq_true rfl)⟩ dX12_hen_4 rfl (fun r5 w6 h4 => ?_)
  obtain ⟨hW7, zb8, x9⟩ := h4
  refine x_ws hW7 ?_
  rcases x9 with ⟨hn10, hw11⟩ | ⟨e12, hw13⟩
  · skip
    obtain ⟨j14, hl15, hh16, ej17⟩ := w_nat (a := 0) (b := 7) (by decide) (by decide) hw11
    subst ej17
    refine x_if_eq C (tgt := 27) dX12_hen_7 (by decide) rfl (fun h => absurd h hn10) (fun _ => ?_)
    refine x_iload_n C dX12_hen_10 rfl 2 rfl rfl ?_
    refine x_iconst C (v := 0) dX12_hen_11 (by decide) rfl ?_
    refine x_iconst C (v := 3) dX12_hen_12 (by decide) rfl ?_
    refine x_si C (As := [.int p1, .int 0, .int 3]) (rest := []) (m_inJ E l a cd hG kf none js jq ws hW0 p1 (0 : Int32) (3 : Int32)) mf_X12_in w_1267 rfl rfl (Nat.le_of_ble_eq_true rfl) ⟨(Nat.le_of_ble_eq_true rfl), (Nat.le_of_ble_eq_true rfl)⟩ ⟨(Nat.le_of_ble_eq_true rfl), (Nat.le_of_ble_eq_true rfl)⟩ dX12_hen_13 rfl (fun r19 w20 h18 => ?_)
    obtain ⟨hW21, zb22, x23⟩ := h18
    refine x_ws hW21 ?_
    rcases x23 with ⟨hn24, hw25⟩ | ⟨e26, hw27⟩
    · skip
      obtain ⟨j28, hl29, hh30, ej31⟩ := w_nat (a := 0) (b := 3) (by decide) (by decide) hw25
      subst ej31
      refine x_if_eq C (tgt := 27) dX12_hen_16 (by decide) rfl (fun h => absurd h hn24) (fun _ => ?_)
      refine x_aload_n C dX12_hen_19 rfl 0 rfl rfl ?_
      refine x_iload_n C dX12_hen_20 rfl 3 rfl rfl ?_
      obtain ⟨_, k32, n33, n35, n37, v39, v40, v41, n42, n44, n46, n48, v50, v51, v52, v53, n54, n56, bn34, bn36, bn38, bn43, bn45, bn47, bn49, bn55, bn57, rfl⟩ := hW0 0 _ rfl
      refine x_vi C (As := [.int p2]) (rest := []) (m_isPersonX E l a cd hG kf none js jq ws hW0 p2 f2 k1) mf_X12_isPerson w_1270 0 k32 rfl rfl rfl (Nat.le_of_ble_eq_true rfl) ⟨(Nat.le_of_ble_eq_true rfl), (Nat.le_of_ble_eq_true rfl)⟩ ⟨(Nat.le_of_ble_eq_true rfl), (Nat.le_of_ble_eq_true rfl)⟩ dX12_hen_21 rfl (fun r59 w60 h58 => ?_)
      obtain ⟨hW61, zb62, x63⟩ := h58
      refine x_ws hW61 ?_
      rw [hP0] at x63
      rcases x63 with ⟨hn64, hw65⟩ | ⟨e66, hw67⟩
      · skip
        obtain ⟨j68, hl69, hh70, ej71⟩ := w_nat (a := 0) (b := 7) (by decide) (by decide) hw65.1
        subst ej71
        refine x_if_ne C (tgt := 29) dX12_hen_24 (by decide) rfl (fun _ => ?_) (fun h => absurd h hn64)
        refine x_aload_n C dX12_hen_29 rfl 0 rfl rfl ?_
        refine x_get C (ci := 11) (k := 0) 0 k32 rfl in_X12 (by decide) w_1118 rfl dX12_hen_30 rfl ?_
        refine x_sipush C (v := 337) dX12_hen_33 (by decide) rfl ?_
        refine x_aload_n C dX12_hen_36 rfl 0 rfl rfl ?_
        refine x_get C (ci := 11) (k := 0) 0 k32 rfl in_X12 (by decide) w_1118 rfl dX12_hen_37 rfl ?_
        refine x_sipush C (v := 337) dX12_hen_40 (by decide) rfl ?_
        refine x_ialk C (v := (f2 337)) 337 (by decide) (by decide) (by decide) 1 k1 rfl dX12_hen_43 rfl ?_
        refine x_iconst C (v := 1) dX12_hen_44 (by decide) rfl ?_
        refine x_iload_n C dX12_hen_45 rfl 1 rfl rfl ?_
        refine x_ishl C (v := ((1 : Int32) <<< ((nI j14) &&& 31))) dX12_hen_46 rfl rfl ?_
        refine x_ior C (v := ((f2 337) ||| ((1 : Int32) <<< ((nI j14) &&& 31)))) dX12_hen_47 rfl rfl ?_
        have pf72 : NB none (upd f2 337 ((f2 337) ||| ((1 : Int32) <<< ((nI j14) &&& 31)))) := NB_freeN pfw (by unfold bd; omega)
        obtain ⟨w73, hw74⟩ : ∃ w : va_W, w = List.set ws 1 (iA E (a 1) 382 (upd f2 337 ((f2 337) ||| ((1 : Int32) <<< ((nI j14) &&& 31))))) := ⟨_, rfl⟩
        refine x_iask C 337 (by decide) (by decide) (by decide) 1 k1 hw74.symm dX12_hen_48 rfl ?_
        have hW75 : WX (okM E a cd kf none js jq) w73 := by rw [hw74]; exact hW0.set (k := 1) rfl ⟨_, pf72, rfl⟩
        have k76 : w73[1]? = some (iA E (a 1) 382 (upd f2 337 ((f2 337) ||| ((1 : Int32) <<< ((nI j14) &&& 31))))) := by rw [hw74]; exact set_eq k1
        have k77 : w73[0]? = some (ob (a 0) 11 [.ref (a 1), .ref (a 2), .ref (a 3), .ref (a 4), .int (nI n33), .int (nI n35), .int (nI n37), .int v39, .int v40, .int v41, .int (nI n42), .int (nI n44), .int (nI n46), .int (nI (cd.2.2.2.2.2)), .ref (a 5), .ref (a 6), .ref (a 7), .ref (a 8), .ref (a 9), .ref (a 10), .ref (a 11), .ref (a 12), .ref (a 13), .ref (a 14), .ref (a 15), .ref (a 16), .ref (a 17), .int (nI n48), .ref (a 18), .ref (a 19), .ref (a 20), .ref (a 21), .int v50, .int v51, .int v52, .int v53, .int (nI n54), .int (nI n56), .ref (a 22), .ref (a 23), .ref (a 24), .ref (a 25), .ref (a 26), .ref (a 27), .ref (a 28), .ref (a 29), .ref (a 30), .int kf]) := by rw [hw74]; exact set_ne k32 (by decide)
        refine x_aload_n C dX12_hen_49 rfl 0 rfl rfl ?_
        refine x_get C (ci := 11) (k := 0) 0 k77 rfl in_X12 (by decide) w_1118 rfl dX12_hen_50 rfl ?_
        refine x_sipush C (v := 321) dX12_hen_53 (by decide) rfl ?_
        refine x_iload_n C dX12_hen_56 rfl 1 rfl rfl ?_
        refine x_iadd C (v := (nI (321 + j14))) dX12_hen_57 (nI_add 321 j14) rfl ?_
        refine x_iload_n C dX12_hen_58 rfl 2 rfl rfl ?_
        have pf78 : NB none (upd (upd f2 337 ((f2 337) ||| ((1 : Int32) <<< ((nI j14) &&& 31)))) (321 + j14) (nI j28)) := NB_free pf72 (by unfold bd; omega)
        obtain ⟨w79, hw80⟩ : ∃ w : va_W, w = List.set w73 1 (iA E (a 1) 382 (upd (upd f2 337 ((f2 337) ||| ((1 : Int32) <<< ((nI j14) &&& 31)))) (321 + j14) (nI j28))) := ⟨_, rfl⟩
        refine x_iask C (321 + j14) (nI_clamp (by omega)) (nI_pos (by omega)) (by omega) 1 k76 hw80.symm dX12_hen_59 rfl ?_
        have hW81 : WX (okM E a cd kf none js jq) w79 := by rw [hw80]; exact hW75.set (k := 1) rfl ⟨_, pf78, rfl⟩
        have k82 : w79[1]? = some (iA E (a 1) 382 (upd (upd f2 337 ((f2 337) ||| ((1 : Int32) <<< ((nI j14) &&& 31)))) (321 + j14) (nI j28))) := by rw [hw80]; exact set_eq k76
        have k83 : w79[0]? = some (ob (a 0) 11 [.ref (a 1), .ref (a 2), .ref (a 3), .ref (a 4), .int (nI n33), .int (nI n35), .int (nI n37), .int v39, .int v40, .int v41, .int (nI n42), .int (nI n44), .int (nI n46), .int (nI (cd.2.2.2.2.2)), .ref (a 5), .ref (a 6), .ref (a 7), .ref (a 8), .ref (a 9), .ref (a 10), .ref (a 11), .ref (a 12), .ref (a 13), .ref (a 14), .ref (a 15), .ref (a 16), .ref (a 17), .int (nI n48), .ref (a 18), .ref (a 19), .ref (a 20), .ref (a 21), .int v50, .int v51, .int v52, .int v53, .int (nI n54), .int (nI n56), .ref (a 22), .ref (a 23), .ref (a 24), .ref (a 25), .ref (a 26), .ref (a 27), .ref (a 28), .ref (a 29), .ref (a 30), .int kf]) := by rw [hw80]; exact set_ne k77 (by decide)
        refine x_aload_n C dX12_hen_60 rfl 0 rfl rfl ?_
        refine x_get C (ci := 11) (k := 0) 0 k83 rfl in_X12 (by decide) w_1118 rfl dX12_hen_61 rfl ?_
        refine x_sipush C (v := 329) dX12_hen_64 (by decide) rfl ?_
        refine x_iload_n C dX12_hen_67 rfl 1 rfl rfl ?_
        refine x_iadd C (v := (nI (329 + j14))) dX12_hen_68 (nI_add 329 j14) rfl ?_
        refine x_iload_n C dX12_hen_69 rfl 3 rfl rfl ?_
        have pf84 : NB none (upd (upd (upd f2 337 ((f2 337) ||| ((1 : Int32) <<< ((nI j14) &&& 31)))) (321 + j14) (nI j28)) (329 + j14) (nI j68)) := NB_put_kp (j := j14) pf78 (by omega) (by omega)
        obtain ⟨w85, hw86⟩ : ∃ w : va_W, w = List.set w79 1 (iA E (a 1) 382 (upd (upd (upd f2 337 ((f2 337) ||| ((1 : Int32) <<< ((nI j14) &&& 31)))) (321 + j14) (nI j28)) (329 + j14) (nI j68))) := ⟨_, rfl⟩
        refine x_iask C (329 + j14) (nI_clamp (by omega)) (nI_pos (by omega)) (by omega) 1 k82 hw86.symm dX12_hen_70 rfl ?_
        have hW87 : WX (okM E a cd kf none js jq) w85 := by rw [hw86]; exact hW81.set (k := 1) rfl ⟨_, pf84, rfl⟩
        have k88 : w85[1]? = some (iA E (a 1) 382 (upd (upd (upd f2 337 ((f2 337) ||| ((1 : Int32) <<< ((nI j14) &&& 31)))) (321 + j14) (nI j28)) (329 + j14) (nI j68))) := by rw [hw86]; exact set_eq k82
        have k89 : w85[0]? = some (ob (a 0) 11 [.ref (a 1), .ref (a 2), .ref (a 3), .ref (a 4), .int (nI n33), .int (nI n35), .int (nI n37), .int v39, .int v40, .int v41, .int (nI n42), .int (nI n44), .int (nI n46), .int (nI (cd.2.2.2.2.2)), .ref (a 5), .ref (a 6), .ref (a 7), .ref (a 8), .ref (a 9), .ref (a 10), .ref (a 11), .ref (a 12), .ref (a 13), .ref (a 14), .ref (a 15), .ref (a 16), .ref (a 17), .int (nI n48), .ref (a 18), .ref (a 19), .ref (a 20), .ref (a 21), .int v50, .int v51, .int v52, .int v53, .int (nI n54), .int (nI n56), .ref (a 22), .ref (a 23), .ref (a 24), .ref (a 25), .ref (a 26), .ref (a 27), .ref (a 28), .ref (a 29), .ref (a 30), .int kf]) := by rw [hw86]; exact set_ne k83 (by decide)
        refine x_iconst C (v := 1) dX12_hen_71 (by decide) rfl ?_
        exact x_zret C hr hlk rfl dX12_hen_72 ⟨(wxL_n hW87 ⟨_, NB_lab pf84 (by (repeat rw [pk_un (by omega)]); exact hP0) (by rw [pk_un (by omega), pk_un (by omega), pk_us, hT_t (P := P) (H := H) (y := (nI j14)) (kd := (nI j28)) (ow := (nI j68)) ⟨hw11, hw25, hw65⟩, hH0]), k88⟩), (Or.inr rfl), (bI_t (P := hC P (nI j14) (nI j28) (nI j68)) ⟨hw11, hw25, hw65⟩).symm⟩
      · refine x_top e66 ?_
        refine x_if_ne C (tgt := 29) dX12_hen_24 (by decide) rfl (fun h => absurd h (by decide)) (fun _ => ?_)
        refine x_iconst C (v := 0) dX12_hen_27 (by decide) rfl ?_
        exact x_zret C hr hlk rfl dX12_hen_28 ⟨(wxL_n hW0 ⟨_, NB_lab pfw hP0 (by rw [hT_f (P := P) (H := H) (y := (nI j14)) (kd := (nI j28)) (ow := p2) (fun q => hw67 q.2.2)]; exact hH0), k1⟩), (Or.inl rfl), (bI_f (P := hC P (nI j14) (nI j28) p2) (fun q => hw67 q.2.2)).symm⟩
    · refine x_top e26 ?_
      refine x_if_eq C (tgt := 27) dX12_hen_16 (by decide) rfl (fun _ => ?_) (fun h => absurd h (by decide))
      refine x_iconst C (v := 0) dX12_hen_27 (by decide) rfl ?_
      exact x_zret C hr hlk rfl dX12_hen_28 ⟨(wxL_n hW0 ⟨_, NB_lab pfw hP0 (by rw [hT_f (P := P) (H := H) (y := (nI j14)) (kd := p1) (ow := p2) (fun q => hw27 q.2.1)]; exact hH0), k1⟩), (Or.inl rfl), (bI_f (P := hC P (nI j14) p1 p2) (fun q => hw27 q.2.1)).symm⟩
  · refine x_top e12 ?_
    refine x_if_eq C (tgt := 27) dX12_hen_7 (by decide) rfl (fun _ => ?_) (fun h => absurd h (by decide))
    refine x_iconst C (v := 0) dX12_hen_27 (by decide) rfl ?_
    exact x_zret C hr hlk rfl dX12_hen_28 ⟨(wxL_n hW0 ⟨_, NB_lab pfw hP0 (by rw [hT_f (P := P) (H := H) (y := p0) (kd := p1) (ow := p2) (fun q => hw13 q.1)]; exact hH0), k1⟩), (Or.inl rfl), (bI_f (P := hC P p0 p1 p2) (fun q => hw13 q.1)).symm⟩
theorem dX12_fox_0 : decode cX12_fox 0 = .ok (.aload_n 0, 1) := by decide +kernel
theorem dX12_fox_1 : decode cX12_fox 1 = .ok (.iload_n 1, 1) := by decide +kernel
theorem dX12_fox_2 : decode cX12_fox 2 = .ok (.invokevirtual 116, 3) := by decide +kernel
theorem dX12_fox_5 : decode cX12_fox 5 = .ok (.ifCond .ne 5, 3) := by decide +kernel
theorem dX12_fox_8 : decode cX12_fox 8 = .ok (.iconst 0, 1) := by decide +kernel
theorem dX12_fox_9 : decode cX12_fox 9 = .ok (.ireturn, 1) := by decide +kernel
theorem dX12_fox_10 : decode cX12_fox 10 = .ok (.aload_n 0, 1) := by decide +kernel
theorem dX12_fox_11 : decode cX12_fox 11 = .ok (.getfield 7, 3) := by decide +kernel
theorem dX12_fox_14 : decode cX12_fox 14 = .ok (.sipush 337, 3) := by decide +kernel
theorem dX12_fox_17 : decode cX12_fox 17 = .ok (.aload_n 0, 1) := by decide +kernel
theorem dX12_fox_18 : decode cX12_fox 18 = .ok (.getfield 7, 3) := by decide +kernel
theorem dX12_fox_21 : decode cX12_fox 21 = .ok (.sipush 337, 3) := by decide +kernel
theorem dX12_fox_24 : decode cX12_fox 24 = .ok (.iaload, 1) := by decide +kernel
theorem dX12_fox_25 : decode cX12_fox 25 = .ok (.iconst 1, 1) := by decide +kernel
theorem dX12_fox_26 : decode cX12_fox 26 = .ok (.iload_n 1, 1) := by decide +kernel
theorem dX12_fox_27 : decode cX12_fox 27 = .ok (.ishl, 1) := by decide +kernel
theorem dX12_fox_28 : decode cX12_fox 28 = .ok (.iconst (-1), 1) := by decide +kernel
theorem dX12_fox_29 : decode cX12_fox 29 = .ok (.ixor, 1) := by decide +kernel
theorem dX12_fox_30 : decode cX12_fox 30 = .ok (.iand, 1) := by decide +kernel
theorem dX12_fox_31 : decode cX12_fox 31 = .ok (.iastore, 1) := by decide +kernel
theorem dX12_fox_32 : decode cX12_fox 32 = .ok (.iconst 1, 1) := by decide +kernel
theorem dX12_fox_33 : decode cX12_fox 33 = .ok (.ireturn, 1) := by decide +kernel
set_option maxRecDepth 20000 in
set_option maxHeartbeats 4000000 in
theorem m_foxX (E : xE) (l : Launch) (a : Nat → Nat) (cd : Cd) (hG : Good cd) (kf : Int32) (jn js jq : Lb) (P H : Int32) (ws : va_W) (hW : WX (okM E a cd kf (some (P, H)) js jq) ws) (p0 : Int32) : xI E l yX12_fox cX12_fox 2 (some .boolean) 8 [.ref (a 0), .int p0] ws (fun r w => WX (okM E a cd kf (some (P, fT H p0)) js jq) w ∧ zb r ∧ (r = bI (inb H p0))) := by
  refine xI_start (lv := [(0, .ref (a 0)), (1, .int p0)]) RX12 (by decide) rfl (Nat.le_of_ble_eq_true rfl) rfl (fun p e s m below meth c A C hr hlk => ?_)
  obtain ⟨_, k1, f2, pf3, rfl⟩ := hW 1 _ rfl
  have hP0 := NB_P pf3
  have hH0 := NB_H pf3
  have pfw := NB_w pf3
  have hW0 := wxW_n hW
  refine x_aload_n C dX12_fox_0 rfl 0 rfl rfl ?_
  refine x_iload_n C dX12_fox_1 rfl 1 rfl rfl ?_
  obtain ⟨_, k4, n5, n7, n9, v11, v12, v13, n14, n16, n18, n20, v22, v23, v24, v25, n26, n28, bn6, bn8, bn10, bn15, bn17, bn19, bn21, bn27, bn29, rfl⟩ := hW0 0 _ rfl
  refine x_vi C (As := [.int p0]) (rest := []) (m_isHenX E l a cd hG kf none js jq ws hW0 p0 f2 k1) mf_X12_isHen w_1285 0 k4 rfl rfl rfl (Nat.le_of_ble_eq_true rfl) ⟨(Nat.le_of_ble_eq_true rfl), (Nat.le_of_ble_eq_true rfl)⟩ ⟨(Nat.le_of_ble_eq_true rfl), (Nat.le_of_ble_eq_true rfl)⟩ dX12_fox_2 rfl (fun r31 w32 h30 => ?_)
  obtain ⟨hW33, zb34, x35⟩ := h30
  refine x_ws hW33 ?_
  rw [hH0] at x35
  rcases x35 with ⟨hn36, hw37⟩ | ⟨e38, hw39⟩
  · skip
    obtain ⟨j40, hl41, hh42, ej43⟩ := w_nat (a := 0) (b := 7) (by decide) (by decide) hw37.1
    subst ej43
    refine x_if_ne C (tgt := 10) dX12_fox_5 (by decide) rfl (fun _ => ?_) (fun h => absurd h hn36)
    refine x_aload_n C dX12_fox_10 rfl 0 rfl rfl ?_
    refine x_get C (ci := 11) (k := 0) 0 k4 rfl in_X12 (by decide) w_1118 rfl dX12_fox_11 rfl ?_
    refine x_sipush C (v := 337) dX12_fox_14 (by decide) rfl ?_
    refine x_aload_n C dX12_fox_17 rfl 0 rfl rfl ?_
    refine x_get C (ci := 11) (k := 0) 0 k4 rfl in_X12 (by decide) w_1118 rfl dX12_fox_18 rfl ?_
    refine x_sipush C (v := 337) dX12_fox_21 (by decide) rfl ?_
    refine x_ialk C (v := (f2 337)) 337 (by decide) (by decide) (by decide) 1 k1 rfl dX12_fox_24 rfl ?_
    refine x_iconst C (v := 1) dX12_fox_25 (by decide) rfl ?_
    refine x_iload_n C dX12_fox_26 rfl 1 rfl rfl ?_
    refine x_ishl C (v := ((1 : Int32) <<< ((nI j40) &&& 31))) dX12_fox_27 rfl rfl ?_
    refine x_iconst C (v := (-1)) dX12_fox_28 (by decide) rfl ?_
    refine x_ixor C (v := (((1 : Int32) <<< ((nI j40) &&& 31)) ^^^ ((-1) : Int32))) dX12_fox_29 rfl rfl ?_
    refine x_iand C (v := ((f2 337) &&& (((1 : Int32) <<< ((nI j40) &&& 31)) ^^^ ((-1) : Int32)))) dX12_fox_30 rfl rfl ?_
    have pf44 : NB none (upd f2 337 ((f2 337) &&& (((1 : Int32) <<< ((nI j40) &&& 31)) ^^^ ((-1) : Int32)))) := NB_freeN pfw (by unfold bd; omega)
    obtain ⟨w45, hw46⟩ : ∃ w : va_W, w = List.set ws 1 (iA E (a 1) 382 (upd f2 337 ((f2 337) &&& (((1 : Int32) <<< ((nI j40) &&& 31)) ^^^ ((-1) : Int32))))) := ⟨_, rfl⟩
    refine x_iask C 337 (by decide) (by decide) (by decide) 1 k1 hw46.symm dX12_fox_31 rfl ?_
    have hW47 : WX (okM E a cd kf none js jq) w45 := by rw [hw46]; exact hW0.set (k := 1) rfl ⟨_, pf44, rfl⟩
    have k48 : w45[1]? = some (iA E (a 1) 382 (upd f2 337 ((f2 337) &&& (((1 : Int32) <<< ((nI j40) &&& 31)) ^^^ ((-1) : Int32))))) := by rw [hw46]; exact set_eq k1
    have k49 : w45[0]? = some (ob (a 0) 11 [.ref (a 1), .ref (a 2), .ref (a 3), .ref (a 4), .int (nI n5), .int (nI n7), .int (nI n9), .int v11, .int v12, .int v13, .int (nI n14), .int (nI n16), .int (nI n18), .int (nI (cd.2.2.2.2.2)), .ref (a 5), .ref (a 6), .ref (a 7), .ref (a 8), .ref (a 9), .ref (a 10), .ref (a 11), .ref (a 12), .ref (a 13), .ref (a 14), .ref (a 15), .ref (a 16), .ref (a 17), .int (nI n20), .ref (a 18), .ref (a 19), .ref (a 20), .ref (a 21), .int v22, .int v23, .int v24, .int v25, .int (nI n26), .int (nI n28), .ref (a 22), .ref (a 23), .ref (a 24), .ref (a 25), .ref (a 26), .ref (a 27), .ref (a 28), .ref (a 29), .ref (a 30), .int kf]) := by rw [hw46]; exact set_ne k4 (by decide)
    refine x_iconst C (v := 1) dX12_fox_32 (by decide) rfl ?_
    exact x_zret C hr hlk rfl dX12_fox_33 ⟨(wxL_n hW47 ⟨_, NB_lab pf44 (by rw [pk_un (by decide)]; exact hP0) (by rw [pk_us, fT_t (H := H) (y := (nI j40)) hw37, hH0]), k48⟩), (Or.inr rfl), (bI_t (P := inb H (nI j40)) hw37).symm⟩
  · refine x_top e38 ?_
    refine x_if_ne C (tgt := 10) dX12_fox_5 (by decide) rfl (fun h => absurd h (by decide)) (fun _ => ?_)
    refine x_iconst C (v := 0) dX12_fox_8 (by decide) rfl ?_
    exact x_zret C hr hlk rfl dX12_fox_9 ⟨(wxL_n hW0 ⟨_, NB_lab pfw hP0 (by rw [fT_f (H := H) (y := p0) hw39]; exact hH0), k1⟩), (Or.inl rfl), (bI_f (P := inb H p0) hw39).symm⟩
theorem dX12_keep_0 : decode cX12_keep 0 = .ok (.aload_n 0, 1) := by decide +kernel
theorem dX12_keep_1 : decode cX12_keep 1 = .ok (.iconst 1, 1) := by decide +kernel
theorem dX12_keep_2 : decode cX12_keep 2 = .ok (.putfield 403, 3) := by decide +kernel
theorem dX12_keep_5 : decode cX12_keep 5 = .ok (.aload_n 0, 1) := by decide +kernel
theorem dX12_keep_6 : decode cX12_keep 6 = .ok (.getfield 7, 3) := by decide +kernel
theorem dX12_keep_9 : decode cX12_keep 9 = .ok (.aload_n 0, 1) := by decide +kernel
theorem dX12_keep_10 : decode cX12_keep 10 = .ok (.getfield 16, 3) := by decide +kernel
theorem dX12_keep_13 : decode cX12_keep 13 = .ok (.invokestatic 299, 3) := by decide +kernel
theorem dX12_keep_16 : decode cX12_keep 16 = .ok (.aload_n 0, 1) := by decide +kernel
theorem dX12_keep_17 : decode cX12_keep 17 = .ok (.iconst 0, 1) := by decide +kernel
theorem dX12_keep_18 : decode cX12_keep 18 = .ok (.invokevirtual 331, 3) := by decide +kernel
theorem dX12_keep_21 : decode cX12_keep 21 = .ok (.ireturn, 1) := by decide +kernel
set_option maxRecDepth 20000 in
set_option maxHeartbeats 4000000 in
theorem m_keepX (E : xE) (l : Launch) (a : Nat → Nat) (cd : Cd) (hG : Good cd) (kf : Int32) (jn js jq : Lb) (ws : va_W) (hW : WX (okM E a cd kf jn js jq) ws) : xI E l yX12_keep cX12_keep 1 (some .int) 8 [.ref (a 0)] ws (fun r w => WX (okM E a cd 1 jn js jn) w) := by
  refine xI_start (lv := [(0, .ref (a 0))]) RX12 (by decide) rfl (Nat.le_of_ble_eq_true rfl) rfl (fun p e s m below meth c A C hr hlk => ?_)
  refine x_aload_n C dX12_keep_0 rfl 0 rfl rfl ?_
  refine x_iconst C (v := 1) dX12_keep_1 (by decide) rfl ?_
  obtain ⟨_, k1, n2, n4, n6, v8, v9, v10, n11, n13, n15, n17, v19, v20, v21, v22, n23, n25, bn3, bn5, bn7, bn12, bn14, bn16, bn18, bn24, bn26, rfl⟩ := hW 0 _ rfl
  obtain ⟨w27, hw28⟩ : ∃ w : va_W, w = List.set ws 0 (ob (a 0) 11 [.ref (a 1), .ref (a 2), .ref (a 3), .ref (a 4), .int (nI n2), .int (nI n4), .int (nI n6), .int v8, .int v9, .int v10, .int (nI n11), .int (nI n13), .int (nI n15), .int (nI (cd.2.2.2.2.2)), .ref (a 5), .ref (a 6), .ref (a 7), .ref (a 8), .ref (a 9), .ref (a 10), .ref (a 11), .ref (a 12), .ref (a 13), .ref (a 14), .ref (a 15), .ref (a 16), .ref (a 17), .int (nI n17), .ref (a 18), .ref (a 19), .ref (a 20), .ref (a 21), .int v19, .int v20, .int v21, .int v22, .int (nI n23), .int (nI n25), .ref (a 22), .ref (a 23), .ref (a 24), .ref (a 25), .ref (a 26), .ref (a 27), .ref (a 28), .ref (a 29), .ref (a 30), .int 1]) := ⟨_, rfl⟩
  refine x_put C (ci := 11) (k := 47) (ty := .boolean) 0 k1 rfl in_X12 tyX12 tyX12_ok nmX12 (by decide) w_1165 rfl rfl rfl rfl (Nat.le_of_ble_eq_true rfl) hw28.symm dX12_keep_2 rfl ?_
  have k29 : w27[0]? = some (ob (a 0) 11 [.ref (a 1), .ref (a 2), .ref (a 3), .ref (a 4), .int (nI n2), .int (nI n4), .int (nI n6), .int v8, .int v9, .int v10, .int (nI n11), .int (nI n13), .int (nI n15), .int (nI (cd.2.2.2.2.2)), .ref (a 5), .ref (a 6), .ref (a 7), .ref (a 8), .ref (a 9), .ref (a 10), .ref (a 11), .ref (a 12), .ref (a 13), .ref (a 14), .ref (a 15), .ref (a 16), .ref (a 17), .int (nI n17), .ref (a 18), .ref (a 19), .ref (a 20), .ref (a 21), .int v19, .int v20, .int v21, .int v22, .int (nI n23), .int (nI n25), .ref (a 22), .ref (a 23), .ref (a 24), .ref (a 25), .ref (a 26), .ref (a 27), .ref (a 28), .ref (a 29), .ref (a 30), .int 1]) := by rw [hw28]; exact set_eq k1
  have hW30 : WX (okM E a cd 1 jn js jq) w27 := by rw [hw28]; exact wxK hW k1 (fun P hP => some_at hP rfl ⟨n2, n4, n6, v8, v9, v10, n11, n13, n15, n17, v19, v20, v21, v22, n23, n25, by omega, by omega, by omega, by omega, by omega, by omega, by omega, by omega, by omega, rfl⟩)
  refine x_aload_n C dX12_keep_5 rfl 0 rfl rfl ?_
  refine x_get C (ci := 11) (k := 0) 0 k29 rfl in_X12 (by decide) w_1118 rfl dX12_keep_6 rfl ?_
  refine x_aload_n C dX12_keep_9 rfl 0 rfl rfl ?_
  refine x_get C (ci := 11) (k := 2) 0 k29 rfl in_X12 (by decide) w_1120 rfl dX12_keep_10 rfl ?_
  refine x_sv C (As := [.ref (a 1), .ref (a 3)]) (rest := []) (m_copies13 E l a cd hG 1 jn js jq w27 hW30) mf_X12_copies w_1490 rfl rfl (Nat.le_of_ble_eq_true rfl) ⟨(Nat.le_of_ble_eq_true rfl), (Nat.le_of_ble_eq_true rfl)⟩ ⟨(Nat.le_of_ble_eq_true rfl), (Nat.le_of_ble_eq_true rfl)⟩ dX12_keep_13 rfl (fun w33 h31 => ?_)
  obtain ⟨hW34, kq35⟩ := h31
  have k36 : w33[0]? = some (ob (a 0) 11 [.ref (a 1), .ref (a 2), .ref (a 3), .ref (a 4), .int (nI n2), .int (nI n4), .int (nI n6), .int v8, .int v9, .int v10, .int (nI n11), .int (nI n13), .int (nI n15), .int (nI (cd.2.2.2.2.2)), .ref (a 5), .ref (a 6), .ref (a 7), .ref (a 8), .ref (a 9), .ref (a 10), .ref (a 11), .ref (a 12), .ref (a 13), .ref (a 14), .ref (a 15), .ref (a 16), .ref (a 17), .int (nI n17), .ref (a 18), .ref (a 19), .ref (a 20), .ref (a 21), .int v19, .int v20, .int v21, .int v22, .int (nI n23), .int (nI n25), .ref (a 22), .ref (a 23), .ref (a 24), .ref (a 25), .ref (a 26), .ref (a 27), .ref (a 28), .ref (a 29), .ref (a 30), .int 1]) := keeps_at kq35 k29 (by first | decide | omega | (dsimp only; omega))
  refine x_aload_n C dX12_keep_16 rfl 0 rfl rfl ?_
  refine x_iconst C (v := 0) dX12_keep_17 (by decide) rfl ?_
  refine x_vi C (As := [.int 0]) (rest := []) (m_howMany E l a cd hG 1 jn js jn w33 hW34 (0 : Int32)) mf_X12_howMany w_1526 0 k36 rfl rfl rfl (Nat.le_of_ble_eq_true rfl) ⟨(Nat.le_of_ble_eq_true rfl), (Nat.le_of_ble_eq_true rfl)⟩ ⟨(Nat.le_of_ble_eq_true rfl), (Nat.le_of_ble_eq_true rfl)⟩ dX12_keep_18 rfl (fun r38 w39 h37 => ?_)
  have hW40 := h37
  refine x_ws hW40 ?_
  exact x_zret C hr hlk rfl dX12_keep_21 hW34
theorem dX12_undo_0 : decode cX12_undo 0 = .ok (.aload_n 0, 1) := by decide +kernel
theorem dX12_undo_1 : decode cX12_undo 1 = .ok (.getfield 403, 3) := by decide +kernel
theorem dX12_undo_4 : decode cX12_undo 4 = .ok (.ifCond .ne 5, 3) := by decide +kernel
theorem dX12_undo_7 : decode cX12_undo 7 = .ok (.iconst 0, 1) := by decide +kernel
theorem dX12_undo_8 : decode cX12_undo 8 = .ok (.ireturn, 1) := by decide +kernel
theorem dX12_undo_9 : decode cX12_undo 9 = .ok (.aload_n 0, 1) := by decide +kernel
theorem dX12_undo_10 : decode cX12_undo 10 = .ok (.getfield 16, 3) := by decide +kernel
theorem dX12_undo_13 : decode cX12_undo 13 = .ok (.aload_n 0, 1) := by decide +kernel
theorem dX12_undo_14 : decode cX12_undo 14 = .ok (.getfield 7, 3) := by decide +kernel
theorem dX12_undo_17 : decode cX12_undo 17 = .ok (.invokestatic 299, 3) := by decide +kernel
theorem dX12_undo_20 : decode cX12_undo 20 = .ok (.iconst 1, 1) := by decide +kernel
theorem dX12_undo_21 : decode cX12_undo 21 = .ok (.ireturn, 1) := by decide +kernel
set_option maxRecDepth 20000 in
set_option maxHeartbeats 4000000 in
theorem m_undoX (E : xE) (l : Launch) (a : Nat → Nat) (cd : Cd) (hG : Good cd) (kf : Int32) (jn js jq : Lb) (ws : va_W) (hW : WX (okM E a cd kf jn js jq) ws) : xI E l yX12_undo cX12_undo 1 (some .boolean) 8 [.ref (a 0)] ws (fun r w => WX (okM E a cd kf (uL kf jn jq) js jq) w ∧ zb r ∧ (r = bI (¬ kf = 0))) := by
  refine xI_start (lv := [(0, .ref (a 0))]) RX12 (by decide) rfl (Nat.le_of_ble_eq_true rfl) rfl (fun p e s m below meth c A C hr hlk => ?_)
  refine x_aload_n C dX12_undo_0 rfl 0 rfl rfl ?_
  obtain ⟨_, k1, n2, n4, n6, v8, v9, v10, n11, n13, n15, n17, v19, v20, v21, v22, n23, n25, bn3, bn5, bn7, bn12, bn14, bn16, bn18, bn24, bn26, rfl⟩ := hW 0 _ rfl
  refine x_get C (ci := 11) (k := 47) 0 k1 rfl in_X12 (by decide) w_1165 rfl dX12_undo_1 rfl ?_
  refine x_if_ne C (tgt := 9) dX12_undo_4 (by decide) rfl (fun c27 => ?_) (fun c27 => ?_)
  · skip
    refine x_aload_n C dX12_undo_9 rfl 0 rfl rfl ?_
    refine x_get C (ci := 11) (k := 2) 0 k1 rfl in_X12 (by decide) w_1120 rfl dX12_undo_10 rfl ?_
    refine x_aload_n C dX12_undo_13 rfl 0 rfl rfl ?_
    refine x_get C (ci := 11) (k := 0) 0 k1 rfl in_X12 (by decide) w_1118 rfl dX12_undo_14 rfl ?_
    refine x_sv C (As := [.ref (a 3), .ref (a 1)]) (rest := []) (m_copies31 E l a cd hG kf jn js jq ws hW) mf_X12_copies w_1490 rfl rfl (Nat.le_of_ble_eq_true rfl) ⟨(Nat.le_of_ble_eq_true rfl), (Nat.le_of_ble_eq_true rfl)⟩ ⟨(Nat.le_of_ble_eq_true rfl), (Nat.le_of_ble_eq_true rfl)⟩ dX12_undo_17 rfl (fun w30 h28 => ?_)
    obtain ⟨hW31, kq32⟩ := h28
    have k33 : w30[0]? = some (ob (a 0) 11 [.ref (a 1), .ref (a 2), .ref (a 3), .ref (a 4), .int (nI n2), .int (nI n4), .int (nI n6), .int v8, .int v9, .int v10, .int (nI n11), .int (nI n13), .int (nI n15), .int (nI (cd.2.2.2.2.2)), .ref (a 5), .ref (a 6), .ref (a 7), .ref (a 8), .ref (a 9), .ref (a 10), .ref (a 11), .ref (a 12), .ref (a 13), .ref (a 14), .ref (a 15), .ref (a 16), .ref (a 17), .int (nI n17), .ref (a 18), .ref (a 19), .ref (a 20), .ref (a 21), .int v19, .int v20, .int v21, .int v22, .int (nI n23), .int (nI n25), .ref (a 22), .ref (a 23), .ref (a 24), .ref (a 25), .ref (a 26), .ref (a 27), .ref (a 28), .ref (a 29), .ref (a 30), .int kf]) := keeps_at kq32 k1 (by first | decide | omega | (dsimp only; omega))
    refine x_iconst C (v := 1) dX12_undo_20 (by decide) rfl ?_
    exact x_zret C hr hlk rfl dX12_undo_21 ⟨(by rw [uL_f c27]; exact hW31), (Or.inr rfl), (bI_t (P := ¬ kf = 0) c27).symm⟩
  · skip
    refine x_iconst C (v := 0) dX12_undo_7 (by decide) rfl ?_
    exact x_zret C hr hlk rfl dX12_undo_8 ⟨(by rw [uL_t c27]; exact hW), (Or.inl rfl), (bI_f (P := ¬ kf = 0) (fun q => q c27)).symm⟩
