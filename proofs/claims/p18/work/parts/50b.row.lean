theorem mn_eq2 (h : Nat) : (if h < 20 - h then h else 20 - h) = mn h := rfl
theorem mrow_0 {f : Nat → Int32} (h : ∀ j, j < 21 → f j = 0) : ∀ j, 1 ≤ j → j ≤ 20 → f (21 * 0 + j) = nI (fh 0 j) := fun j _ h2 => by rw [Nat.mul_zero, Nat.zero_add]; exact h j (by omega)
theorem sc_up {f : Nat → Nat} {h k : Nat} (c : fv f h (sc f h k) < fv f h (k + 1)) : sc f h (k + 1) = k + 1 := by rw [sc, if_pos c]
theorem sc_no {f : Nat → Nat} {h k : Nat} (c : ¬ fv f h (sc f h k) < fv f h (k + 1)) : sc f h (k + 1) = sc f h k := by rw [sc, if_neg c]
theorem fv_le {d h x : Nat} (hd : d ≤ 12) (hx : h + x ≤ 20) : fv (fh d) h x ≤ 1000 := by
  have := fh_le d (h + x) hx
  rw [fv]; omega
theorem fh_p {d : Nat} (h : Nat) (hd : 1 ≤ d) : fh d h = fv (fh (d - 1)) h (fb (d - 1) h) := by
  obtain ⟨e, rfl⟩ : ∃ e, d = e + 1 := ⟨d - 1, by omega⟩
  rfl
theorem mlr {f : Nat → Int32} {d h : Nat} {v : Int32} (hf : ∀ j, 1 ≤ j → j ≤ 20 → f (21 * (d - 1) + j) = nI (fh (d - 1) j)) (hd : 1 ≤ d) : ∀ j, 1 ≤ j → j ≤ 20 → upd f (21 * d + h) v (21 * (d - 1) + j) = nI (fh (d - 1) j) := fun j h1 h2 => by rw [pk_un (by omega)]; exact hf j h1 h2
theorem mls {f : Nat → Int32} {d h : Nat} (hf : ∀ j, 1 ≤ j → j < h → f (21 * d + j) = nI (fh d j)) : ∀ j, 1 ≤ j → j < h + 1 → upd f (21 * d + h) (nI (fh d h)) (21 * d + j) = nI (fh d j) := fun j h1 h2 => by
  by_cases e : j = h
  · subst e; rw [pk_us]
  · rw [pk_un (by omega)]; exact hf j h1 (by omega)
theorem mln {f : Nat → Int32} {d h : Nat} (hf : ∀ j, 1 ≤ j → j < h → f (21 * d + j) = nI (fh d j)) (hh : 20 < h) : ∀ j, 1 ≤ j → j ≤ 20 → f (21 * (d + 1 - 1) + j) = nI (fh (d + 1 - 1) j) := fun j h1 h2 => by rw [Nat.add_sub_cancel]; exact hf j h1 (by omega)
theorem sc_u {f : Nat → Nat} {h x fi : Nat} (hx : 1 ≤ x) (e : fi = sc f h (x - 1)) (c : fv f h fi < fv f h x) : x = sc f h (x + 1 - 1) := by
  obtain ⟨k, rfl⟩ : ∃ k, x = k + 1 := ⟨x - 1, by omega⟩
  rw [Nat.add_sub_cancel] at e ⊢
  rw [e] at c
  exact (sc_up c).symm
theorem sc_n {f : Nat → Nat} {h x fi : Nat} (hx : 1 ≤ x) (e : fi = sc f h (x - 1)) (c : ¬ fv f h fi < fv f h x) : fi = sc f h (x + 1 - 1) := by
  obtain ⟨k, rfl⟩ : ∃ k, x = k + 1 := ⟨x - 1, by omega⟩
  rw [Nat.add_sub_cancel] at e ⊢
  rw [e] at c
  rw [sc_no c]; exact e
set_option maxRecDepth 20000 in
set_option maxHeartbeats 4000000 in
theorem m_inX (E : xE) (l : Launch) (a : Nat → Nat) (cd : Cd) (hG : Good cd) (ws : va_W) (hW : WX (okM E a cd) ws) (v : Int32) (lo : Int32) (hi : Int32) : xI E l yX12_in cX12_in 3 (some .boolean) 0 [.int v, .int lo, .int hi] ws (fun r w => w = ws ∧ zb r ∧ ((¬ r = 0 ∧ wth v lo hi) ∨ (r = 0 ∧ ¬ wth v lo hi))) := by
  refine xI_start (lv := [(0, .int v), (1, .int lo), (2, .int hi)]) RX12 (by decide) rfl (Nat.le_of_ble_eq_true rfl) rfl (fun p e s m below meth c A C hr hlk => ?_)
  refine x_iload_n C dX12_in_0 rfl 0 rfl rfl ?_
  refine x_iload_n C dX12_in_1 rfl 1 rfl rfl ?_
  refine x_icmp_lt C (tgt := 14) dX12_in_2 (by decide) rfl (fun c1 => ?_) (fun c1 => ?_)
  · skip
    refine x_iconst C (v := 0) dX12_in_14 (by decide) rfl ?_
    exact x_zret C hr hlk rfl dX12_in_15 ⟨rfl, (Or.inl rfl), (Or.inr ⟨rfl, fun q => q.1 c1⟩)⟩
  · skip
    refine x_iload_n C dX12_in_5 rfl 0 rfl rfl ?_
    refine x_iload_n C dX12_in_6 rfl 2 rfl rfl ?_
    refine x_icmp_gt C (tgt := 14) dX12_in_7 (by decide) rfl (fun c2 => ?_) (fun c2 => ?_)
    · skip
      refine x_iconst C (v := 0) dX12_in_14 (by decide) rfl ?_
      exact x_zret C hr hlk rfl dX12_in_15 ⟨rfl, (Or.inl rfl), (Or.inr ⟨rfl, fun q => q.2 c2⟩)⟩
    · skip
      refine x_iconst C (v := 1) dX12_in_10 (by decide) rfl ?_
      refine x_goto C (tgt := 15) dX12_in_11 (by decide) ?_
      exact x_zret C hr hlk rfl dX12_in_15 ⟨rfl, (Or.inr rfl), (Or.inl ⟨by decide, ⟨c1, c2⟩⟩)⟩
set_option maxRecDepth 20000 in
set_option maxHeartbeats 4000000 in
theorem m_minE (E : xE) (l : Launch) (a : Nat → Nat) (cd : Cd) (hG : Good cd) (ws : va_W) (hW : WX (okM E a cd) ws) (x0 : Nat) (y0 : Nat) (hx0 : x0 < 2 ^ 31) (hy0 : y0 < 2 ^ 31) : xI E l yX12_min cX12_min 2 (some .int) 0 [.int (nI x0), .int (nI y0)] ws (fun r w => w = ws ∧ (r = nI (if x0 < y0 then x0 else y0))) := by
  refine xI_start (lv := [(0, .int (nI x0)), (1, .int (nI y0))]) RX12 (by decide) rfl (Nat.le_of_ble_eq_true rfl) rfl (fun p e s m below meth c A C hr hlk => ?_)
  refine x_iload_n C dX12_min_0 rfl 0 rfl rfl ?_
  refine x_iload_n C dX12_min_1 rfl 1 rfl rfl ?_
  refine x_icmp_ge C (tgt := 9) dX12_min_2 (by decide) rfl (fun c1 => ?_) (fun c1 => ?_)
  · skip
    have nf2 := nI_le' (a := y0) (b := x0) c1 (by omega) (by omega)
    refine x_iload_n C dX12_min_9 rfl 1 rfl rfl ?_
    exact x_zret C hr hlk rfl dX12_min_10 ⟨rfl, (congrArg nI (if_neg (by omega)).symm)⟩
  · skip
    have nf3 := nI_nle' (a := y0) (b := x0) c1 (by omega) (by omega)
    refine x_iload_n C dX12_min_5 rfl 0 rfl rfl ?_
    refine x_goto C (tgt := 10) dX12_min_6 (by decide) ?_
    exact x_zret C hr hlk rfl dX12_min_10 ⟨rfl, (congrArg nI (if_pos (by omega)).symm)⟩
set_option maxRecDepth 20000 in
set_option maxHeartbeats 4000000 in
theorem m_hoursByX (E : xE) (l : Launch) (a : Nat → Nat) (cd : Cd) (hG : Good cd) (ws : va_W) (hW : WX (okM E a cd) ws) (n0 : Nat) (h0 : Nat) (x0 : Nat) (hn0 : 1 ≤ n0 ∧ n0 ≤ 12) (hhx : h0 + x0 ≤ 20 ∧ x0 ≤ h0 ∧ 1 ≤ h0) (ff : Nat → Int32) (hff : ws[29]? = some (iA E (a 29) 273 ff)) (hfg : ∀ j, 1 ≤ j → j ≤ 20 → ff (21 * (n0 - 1) + j) = nI (fh (n0 - 1) j)) : xI E l yX12_hoursBy cX12_hoursBy 4 (some .int) 0 [.ref (a 0), .int (nI n0), .int (nI h0), .int (nI x0)] ws (fun r w => w = ws ∧ (r = nI (fv (fh (n0 - 1)) h0 x0))) := by
  refine xI_start (lv := [(0, .ref (a 0)), (1, .int (nI n0)), (2, .int (nI h0)), (3, .int (nI x0))]) RX12 (by decide) rfl (Nat.le_of_ble_eq_true rfl) rfl (fun p e s m below meth c A C hr hlk => ?_)
  refine x_iload_n C dX12_hoursBy_0 rfl 2 rfl rfl ?_
  refine x_iload_n C dX12_hoursBy_1 rfl 3 rfl rfl ?_
  refine x_isub C (v := (nI (h0 - x0))) dX12_hoursBy_2 (pk_sub (a := h0) (b := x0) (by omega)) rfl ?_
  refine x_aload_n C dX12_hoursBy_3 rfl 0 rfl rfl ?_
  obtain ⟨_, k1, n2, n4, n6, v8, v9, v10, n11, n13, n15, n17, v19, v20, v21, v22, n23, n25, v27, bn3, bn5, bn7, bn12, bn14, bn16, bn18, bn24, bn26, zv28, rfl⟩ := hW 0 _ rfl
  refine x_get C (ci := 11) (k := 45) 0 k1 rfl in_X12 (by decide) w_1163 rfl dX12_hoursBy_4 rfl ?_
  refine x_bipush C (v := 21) dX12_hoursBy_7 (by decide) rfl ?_
  refine x_iload_n C dX12_hoursBy_9 rfl 1 rfl rfl ?_
  refine x_iconst C (v := 1) dX12_hoursBy_10 (by decide) rfl ?_
  refine x_isub C (v := (nI (n0 - 1))) dX12_hoursBy_11 (pk_sub (a := n0) (b := 1) (by omega)) rfl ?_
  refine x_imul C (v := (nI (21 * (n0 - 1)))) dX12_hoursBy_12 (pk_mul 21 (n0 - 1)) rfl ?_
  refine x_iload_n C dX12_hoursBy_13 rfl 2 rfl rfl ?_
  refine x_iadd C (v := (nI ((21 * (n0 - 1)) + h0))) dX12_hoursBy_14 (nI_add (21 * (n0 - 1)) h0) rfl ?_
  refine x_iload_n C dX12_hoursBy_15 rfl 3 rfl rfl ?_
  refine x_iadd C (v := (nI (((21 * (n0 - 1)) + h0) + x0))) dX12_hoursBy_16 (nI_add ((21 * (n0 - 1)) + h0) x0) rfl ?_
  refine x_ialk C (v := (ff (((21 * (n0 - 1)) + h0) + x0))) (((21 * (n0 - 1)) + h0) + x0) (nI_clamp (by omega)) (nI_pos (by omega)) (by omega) 29 hff rfl dX12_hoursBy_17 rfl ?_
  refine x_top (show (ff (((21 * (n0 - 1)) + h0) + x0)) = nI (fh (n0 - 1) (h0 + x0)) from by rw [show 21 * (n0 - 1) + h0 + x0 = 21 * (n0 - 1) + (h0 + x0) from by omega]; exact hfg (h0 + x0) (by omega) (by omega)) ?_
  refine x_iadd C (v := (nI ((h0 - x0) + (fh (n0 - 1) (h0 + x0))))) dX12_hoursBy_18 (nI_add (h0 - x0) (fh (n0 - 1) (h0 + x0))) rfl ?_
  exact x_zret C hr hlk rfl dX12_hoursBy_19 ⟨rfl, rfl⟩
set_option maxRecDepth 20000 in
set_option maxHeartbeats 4000000 in
theorem m_flockX (E : xE) (l : Launch) (a : Nat → Nat) (cd : Cd) (hG : Good cd) (ws : va_W) (hW : WX (okM E a cd) ws) (p0 : Int32) (p1 : Int32) (p2 : Int32) : xI E l yX12_flock cX12_flock 9 (some .int) 8 [.ref (a 0), .int p0, .int p1, .int p2] ws (fun r w => WX (okM E a cd) w ∧ (r = flk p0 p1 p2)) := by
  refine xI_start (lv := [(0, .ref (a 0)), (1, .int p0), (2, .int p1), (3, .int p2)]) RX12 (by decide) rfl (Nat.le_of_ble_eq_true rfl) rfl (fun p e s m below meth c A C hr hlk => ?_)
  refine x_iload_n C dX12_flock_0 rfl 1 rfl rfl ?_
  refine x_iconst C (v := 1) dX12_flock_1 (by decide) rfl ?_
  refine x_bipush C (v := 20) dX12_flock_2 (by decide) rfl ?_
  refine x_si C (As := [.int p0, .int 1, .int 20]) (rest := []) (m_inX E l a cd hG ws hW p0 (1 : Int32) (20 : Int32)) mf_X12_in w_1267 rfl rfl (Nat.le_of_ble_eq_true rfl) ⟨(Nat.le_of_ble_eq_true rfl), (Nat.le_of_ble_eq_true rfl)⟩ ⟨(Nat.le_of_ble_eq_true rfl), (Nat.le_of_ble_eq_true rfl)⟩ dX12_flock_4 rfl (fun r2 w3 h1 => ?_)
  obtain ⟨hW4, zb5, x6⟩ := h1
  refine x_ws hW4 ?_
  rcases x6 with ⟨hn7, hw8⟩ | ⟨e9, hw10⟩
  · skip
    obtain ⟨j11, hl12, hh13, ej14⟩ := w_nat (a := 1) (b := 20) (by decide) (by decide) hw8
    subst ej14
    refine x_if_eq C (tgt := 29) dX12_flock_7 (by decide) rfl (fun h => absurd h hn7) (fun _ => ?_)
    refine x_iload_n C dX12_flock_10 rfl 2 rfl rfl ?_
    refine x_iconst C (v := 1) dX12_flock_11 (by decide) rfl ?_
    refine x_bipush C (v := 12) dX12_flock_12 (by decide) rfl ?_
    refine x_si C (As := [.int p1, .int 1, .int 12]) (rest := []) (m_inX E l a cd hG ws hW p1 (1 : Int32) (12 : Int32)) mf_X12_in w_1267 rfl rfl (Nat.le_of_ble_eq_true rfl) ⟨(Nat.le_of_ble_eq_true rfl), (Nat.le_of_ble_eq_true rfl)⟩ ⟨(Nat.le_of_ble_eq_true rfl), (Nat.le_of_ble_eq_true rfl)⟩ dX12_flock_14 rfl (fun r16 w17 h15 => ?_)
    obtain ⟨hW18, zb19, x20⟩ := h15
    refine x_ws hW18 ?_
    rcases x20 with ⟨hn21, hw22⟩ | ⟨e23, hw24⟩
    · skip
      obtain ⟨j25, hl26, hh27, ej28⟩ := w_nat (a := 1) (b := 12) (by decide) (by decide) hw22
      subst ej28
      refine x_if_eq C (tgt := 29) dX12_flock_17 (by decide) rfl (fun h => absurd h hn21) (fun _ => ?_)
      refine x_iload_n C dX12_flock_20 rfl 3 rfl rfl ?_
      refine x_iconst C (v := 0) dX12_flock_21 (by decide) rfl ?_
      refine x_iconst C (v := 1) dX12_flock_22 (by decide) rfl ?_
      refine x_si C (As := [.int p2, .int 0, .int 1]) (rest := []) (m_inX E l a cd hG ws hW p2 (0 : Int32) (1 : Int32)) mf_X12_in w_1267 rfl rfl (Nat.le_of_ble_eq_true rfl) ⟨(Nat.le_of_ble_eq_true rfl), (Nat.le_of_ble_eq_true rfl)⟩ ⟨(Nat.le_of_ble_eq_true rfl), (Nat.le_of_ble_eq_true rfl)⟩ dX12_flock_23 rfl (fun r30 w31 h29 => ?_)
      obtain ⟨hW32, zb33, x34⟩ := h29
      refine x_ws hW32 ?_
      rcases x34 with ⟨hn35, hw36⟩ | ⟨e37, hw38⟩
      · skip
        obtain ⟨j39, hl40, hh41, ej42⟩ := w_nat (a := 0) (b := 1) (by decide) (by decide) hw36
        subst ej42
        refine x_if_ne C (tgt := 31) dX12_flock_26 (by decide) rfl (fun _ => ?_) (fun h => absurd h hn35)
        obtain ⟨_, k43, f44, rfl⟩ := hW 29 _ rfl
        refine x_iconst C (v := 0) dX12_flock_31 (by decide) rfl ?_
        refine x_istore C (lv' := [(4, .int 0), (0, .ref (a 0)), (1, .int (nI j11)), (2, .int (nI j25)), (3, .int (nI j39))]) dX12_flock_32 (by decide) rfl rfl ?_
        refine x_iconst C (v := 0) dX12_flock_34 (by decide) rfl ?_
        refine x_istore C (lv' := [(5, .int 0), (4, .int 0), (0, .ref (a 0)), (1, .int (nI j11)), (2, .int (nI j25)), (3, .int (nI j39))]) dX12_flock_35 (by decide) rfl rfl ?_
        have loop37 : ∀ (fu37 : Nat) (h : Nat) (wl37 : va_W), WX (okM E a cd) wl37 → 21 - h < fu37 → h ≤ 21 → (∃ f : Nat → Int32, wl37[29]? = some (iA E (a 29) 273 f) ∧ ∀ j, j < h → f j = 0) → X E p l e (xRm 8 0 0) s m ([.ref (a 0), .int (nI j11), .int (nI j25), .int (nI j39)] : List Value).toArray below meth c A 9 0 0 (MQ below (va_Qi (fun r w => WX (okM E a cd) w ∧ (r = flk (nI j11) (nI j25) (nI j39))) (xB E A) A) ([.ref (a 0), .int (nI j11), .int (nI j25), .int (nI j39)] : List Value).toArray s 0 0 A) wl37 37 [(0, .ref (a 0)), (1, .int (nI j11)), (2, .int (nI j25)), (3, .int (nI j39)), (4, .int 0), (5, .int (nI h))] [] := by
          intro fu37
          induction fu37 with
          | zero => intro h wl37 _ q; omega
          | succ fu37 ih37 =>
            intro h wl37 hWl37 me37 iv37_0 iv37_1
            obtain ⟨f45, k46, hf47⟩ := iv37_1
            refine x_iload C dX12_flock_37 5 rfl rfl ?_
            refine x_bipush C (v := 20) dX12_flock_39 (by decide) rfl ?_
            refine x_icmp_gt C (tgt := 58) dX12_flock_41 (by decide) rfl (fun c48 => ?_) (fun c48 => ?_)
            · skip
              have nf49 := nI_lt' (a := 20) (b := h) c48 (by omega) (by omega)
              refine x_iconst C (v := 1) dX12_flock_58 (by decide) rfl ?_
              refine x_istore C (lv' := [(5, .int 1), (0, .ref (a 0)), (1, .int (nI j11)), (2, .int (nI j25)), (3, .int (nI j39)), (4, .int 0)]) dX12_flock_59 (by decide) rfl rfl ?_
              have loop61 : ∀ (fu61 : Nat) (z61_4 : Int32) (d : Nat) (wl61 : va_W), WX (okM E a cd) wl61 → 13 - d < fu61 → 1 ≤ d ∧ d ≤ j25 + 1 → (∃ f : Nat → Int32, wl61[29]? = some (iA E (a 29) 273 f) ∧ ∀ j, 1 ≤ j → j ≤ 20 → f (21 * (d - 1) + j) = nI (fh (d - 1) j)) → (2 ≤ d → z61_4 = nI (fb (d - 2) j11)) → X E p l e (xRm 8 0 0) s m ([.ref (a 0), .int (nI j11), .int (nI j25), .int (nI j39)] : List Value).toArray below meth c A 9 0 0 (MQ below (va_Qi (fun r w => WX (okM E a cd) w ∧ (r = flk (nI j11) (nI j25) (nI j39))) (xB E A) A) ([.ref (a 0), .int (nI j11), .int (nI j25), .int (nI j39)] : List Value).toArray s 0 0 A) wl61 61 [(0, .ref (a 0)), (1, .int (nI j11)), (2, .int (nI j25)), (3, .int (nI j39)), (4, .int z61_4), (5, .int (nI d))] [] := by
                intro fu61
                induction fu61 with
                | zero => intro z61_4 d wl61 _ q; omega
                | succ fu61 ih61 =>
                  intro z61_4 d wl61 hWl61 me61 iv61_0 iv61_1 iv61_2
                  obtain ⟨f50, k51, hf52⟩ := iv61_1
                  refine x_iload C dX12_flock_61 5 rfl rfl ?_
                  refine x_iload_n C dX12_flock_63 rfl 2 rfl rfl ?_
                  refine x_icmp_gt C (tgt := 176) dX12_flock_64 (by decide) rfl (fun c53 => ?_) (fun c53 => ?_)
                  · skip
                    have nf54 := nI_lt' (a := j25) (b := d) c53 (by omega) (by omega)
                    refine x_iload_n C dX12_flock_176 rfl 3 rfl rfl ?_
                    refine x_if_ne C (tgt := 194) dX12_flock_177 (by decide) rfl (fun c55 => ?_) (fun c55 => ?_)
                    · skip
                      have nf56 : ¬ j39 = 0 := fun q => c55 (congrArg nI q)
                      refine x_iload C dX12_flock_194 4 rfl rfl ?_
                      exact x_zret C hr hlk rfl dX12_flock_196 ⟨hWl61, (flk_1 ⟨hw8, hw22, hw36⟩ (by omega) (by omega) (by omega) (by omega) ((iv61_2 (by omega)).trans (by rw [show d - 2 = j25 - 1 from by omega])))⟩
                    · skip
                      have nf57 : j39 = 0 := (nI_eq (by omega) (by omega)).mp c55
                      refine x_aload_n C dX12_flock_180 rfl 0 rfl rfl ?_
                      obtain ⟨_, k58, n59, n61, n63, v65, v66, v67, n68, n70, n72, n74, v76, v77, v78, v79, n80, n82, v84, bn60, bn62, bn64, bn69, bn71, bn73, bn75, bn81, bn83, zv85, rfl⟩ := hWl61 0 _ rfl
                      refine x_get C (ci := 11) (k := 45) 0 k58 rfl in_X12 (by decide) w_1163 rfl dX12_flock_181 rfl ?_
                      refine x_bipush C (v := 21) dX12_flock_184 (by decide) rfl ?_
                      refine x_iload_n C dX12_flock_186 rfl 2 rfl rfl ?_
                      refine x_imul C (v := (nI (21 * j25))) dX12_flock_187 (pk_mul 21 j25) rfl ?_
                      refine x_iload_n C dX12_flock_188 rfl 1 rfl rfl ?_
                      refine x_iadd C (v := (nI ((21 * j25) + j11))) dX12_flock_189 (nI_add (21 * j25) j11) rfl ?_
                      refine x_ialk C (v := (f50 ((21 * j25) + j11))) ((21 * j25) + j11) (nI_clamp (by omega)) (nI_pos (by omega)) (by omega) 29 k51 rfl dX12_flock_190 rfl ?_
                      refine x_top (show (f50 ((21 * j25) + j11)) = nI (fh (d - 1) j11) from by rw [show j25 = d - 1 from by omega]; exact hf52 j11 (by omega) (by omega)) ?_
                      refine x_goto C (tgt := 196) dX12_flock_191 (by decide) ?_
                      exact x_zret C hr hlk rfl dX12_flock_196 ⟨hWl61, ((congrArg (fun q => nI (fh q j11)) (show d - 1 = j25 from by omega)).trans (flk_0 ⟨hw8, hw22, hw36⟩ (by omega) (by omega) (by omega)))⟩
                  · skip
                    have nf86 := nI_nlt' (a := j25) (b := d) c53 (by omega) (by omega)
                    refine x_iconst C (v := 1) dX12_flock_67 (by decide) rfl ?_
                    refine x_istore C (lv' := [(6, .int 1), (0, .ref (a 0)), (1, .int (nI j11)), (2, .int (nI j25)), (3, .int (nI j39)), (4, .int z61_4), (5, .int (nI d))]) dX12_flock_68 (by decide) rfl rfl ?_
                    have loop70 : ∀ (fu70 : Nat) (z70_4 : Int32) (h : Nat) (wl70 : va_W), WX (okM E a cd) wl70 → 21 - h < fu70 → 1 ≤ h ∧ h ≤ 21 → (∃ f : Nat → Int32, wl70[29]? = some (iA E (a 29) 273 f) ∧ (∀ j, 1 ≤ j → j ≤ 20 → f (21 * (d - 1) + j) = nI (fh (d - 1) j)) ∧ ∀ j, 1 ≤ j → j < h → f (21 * d + j) = nI (fh d j)) → (j11 < h → z70_4 = nI (fb (d - 1) j11)) → X E p l e (xRm 8 0 0) s m ([.ref (a 0), .int (nI j11), .int (nI j25), .int (nI j39)] : List Value).toArray below meth c A 9 0 0 (MQ below (va_Qi (fun r w => WX (okM E a cd) w ∧ (r = flk (nI j11) (nI j25) (nI j39))) (xB E A) A) ([.ref (a 0), .int (nI j11), .int (nI j25), .int (nI j39)] : List Value).toArray s 0 0 A) wl70 70 [(0, .ref (a 0)), (1, .int (nI j11)), (2, .int (nI j25)), (3, .int (nI j39)), (4, .int z70_4), (5, .int (nI d)), (6, .int (nI h))] [] := by
                      intro fu70
                      induction fu70 with
                      | zero => intro z70_4 h wl70 _ q; omega
                      | succ fu70 ih70 =>
                        intro z70_4 h wl70 hWl70 me70 iv70_0 iv70_1 iv70_2
                        obtain ⟨f87, k88, hf89, hf90⟩ := iv70_1
                        refine x_iload C dX12_flock_70 6 rfl rfl ?_
                        refine x_bipush C (v := 20) dX12_flock_72 (by decide) rfl ?_
                        refine x_icmp_gt C (tgt := 170) dX12_flock_74 (by decide) rfl (fun c91 => ?_) (fun c91 => ?_)
                        · skip
                          have nf92 := nI_lt' (a := 20) (b := h) c91 (by omega) (by omega)
                          refine x_iinc C (v := (nI (d + 1))) (lv' := [(5, .int (nI (d + 1))), (0, .ref (a 0)), (1, .int (nI j11)), (2, .int (nI j25)), (3, .int (nI j39)), (4, .int z70_4), (6, .int (nI h))]) dX12_flock_170 5 rfl (nI_add d 1) (by decide) rfl rfl ?_
                          refine x_goto C (tgt := 61) dX12_flock_173 (by decide) ?_
                          refine x_lv (lv1 := [(0, .ref (a 0)), (1, .int (nI j11)), (2, .int (nI j25)), (3, .int (nI j39)), (4, .int z70_4), (5, .int (nI (d + 1)))]) [1, 2, 3, 4, 5, 0] rfl ?_
                          exact ih61 z70_4 (d + 1) wl70 hWl70 (by omega) (by omega) ⟨_, k88, mln hf90 (by omega)⟩ (fun _ => (iv70_2 (by omega)).trans (by rw [show d + 1 - 2 = d - 1 from by omega]))
                        · skip
                          have nf93 := nI_nlt' (a := 20) (b := h) c91 (by omega) (by omega)
                          refine x_iconst C (v := 0) dX12_flock_77 (by decide) rfl ?_
                          refine x_istore C (lv' := [(7, .int 0), (0, .ref (a 0)), (1, .int (nI j11)), (2, .int (nI j25)), (3, .int (nI j39)), (4, .int z70_4), (5, .int (nI d)), (6, .int (nI h))]) dX12_flock_78 (by decide) rfl rfl ?_
                          refine x_iconst C (v := 1) dX12_flock_80 (by decide) rfl ?_
                          refine x_istore C (lv' := [(8, .int 1), (7, .int 0), (0, .ref (a 0)), (1, .int (nI j11)), (2, .int (nI j25)), (3, .int (nI j39)), (4, .int z70_4), (5, .int (nI d)), (6, .int (nI h))]) dX12_flock_81 (by decide) rfl rfl ?_
                          have loop83 : ∀ (fu83 : Nat) (fi : Nat) (x : Nat), True → mn h + 1 - x < fu83 → 1 ≤ x ∧ x ≤ mn h + 1 → fi = sc (fh (d - 1)) h (x - 1) → X E p l e (xRm 8 0 0) s m ([.ref (a 0), .int (nI j11), .int (nI j25), .int (nI j39)] : List Value).toArray below meth c A 9 0 0 (MQ below (va_Qi (fun r w => WX (okM E a cd) w ∧ (r = flk (nI j11) (nI j25) (nI j39))) (xB E A) A) ([.ref (a 0), .int (nI j11), .int (nI j25), .int (nI j39)] : List Value).toArray s 0 0 A) wl70 83 [(0, .ref (a 0)), (1, .int (nI j11)), (2, .int (nI j25)), (3, .int (nI j39)), (4, .int z70_4), (5, .int (nI d)), (6, .int (nI h)), (7, .int (nI fi)), (8, .int (nI x))] [] := by
                            intro fu83
                            induction fu83 with
                            | zero => intro fi x _ q; omega
                            | succ fu83 ih83 =>
                              intro fi x _ me83 iv83_0 iv83_1
                              refine x_iload C dX12_flock_83 8 rfl rfl ?_
                              refine x_iload C dX12_flock_85 6 rfl rfl ?_
                              refine x_bipush C (v := 20) dX12_flock_87 (by decide) rfl ?_
                              refine x_iload C dX12_flock_89 6 rfl rfl ?_
                              refine x_isub C (v := (nI (20 - h))) dX12_flock_91 (pk_sub (a := 20) (b := h) (by omega)) rfl ?_
                              refine x_si C (As := [.int (nI h), .int (nI (20 - h))]) (rest := [.int (nI x)]) (m_minE E l a cd hG wl70 hWl70 h (20 - h) (by omega) (by omega)) mf_X12_min w_1479 rfl rfl (Nat.le_of_ble_eq_true rfl) ⟨(Nat.le_of_ble_eq_true rfl), (Nat.le_of_ble_eq_true rfl)⟩ ⟨(Nat.le_of_ble_eq_true rfl), (Nat.le_of_ble_eq_true rfl)⟩ dX12_flock_92 rfl (fun r95 w96 h94 => ?_)
                              obtain ⟨hW97, x98⟩ := h94
                              refine x_ws hW97 ?_
                              refine x_top (show r95 = nI (mn h) from x98) ?_
                              have hm99 := mn_20 (h := h) (by omega)
                              have hm100 := mn_le h
                              have hm101 := sc_le (fh (d - 1)) h (x - 1)
                              refine x_icmp_gt C (tgt := 131) dX12_flock_95 (by decide) rfl (fun c102 => ?_) (fun c102 => ?_)
                              · skip
                                have nf103 := nI_lt' (a := (mn h)) (b := x) c102 (by omega) (by omega)
                                have hfi : fi = fb (d - 1) h := iv83_1.trans (by rw [show x - 1 = mn h from by omega]; rfl)
                                refine x_aload_n C dX12_flock_131 rfl 0 rfl rfl ?_
                                obtain ⟨_, k104, n105, n107, n109, v111, v112, v113, n114, n116, n118, n120, v122, v123, v124, v125, n126, n128, v130, bn106, bn108, bn110, bn115, bn117, bn119, bn121, bn127, bn129, zv131, rfl⟩ := hWl70 0 _ rfl
                                refine x_get C (ci := 11) (k := 45) 0 k104 rfl in_X12 (by decide) w_1163 rfl dX12_flock_132 rfl ?_
                                refine x_bipush C (v := 21) dX12_flock_135 (by decide) rfl ?_
                                refine x_iload C dX12_flock_137 5 rfl rfl ?_
                                refine x_imul C (v := (nI (21 * d))) dX12_flock_139 (pk_mul 21 d) rfl ?_
                                refine x_iload C dX12_flock_140 6 rfl rfl ?_
                                refine x_iadd C (v := (nI ((21 * d) + h))) dX12_flock_142 (nI_add (21 * d) h) rfl ?_
                                refine x_aload_n C dX12_flock_143 rfl 0 rfl rfl ?_
                                refine x_iload C dX12_flock_144 5 rfl rfl ?_
                                refine x_iload C dX12_flock_146 6 rfl rfl ?_
                                refine x_iload C dX12_flock_148 7 rfl rfl ?_
                                refine x_vi C (As := [.int (nI d), .int (nI h), .int (nI fi)]) (rest := [.int (nI ((21 * d) + h)), .ref (a 29)]) (m_hoursByX E l a cd hG wl70 hWl70 d h fi (by omega) (by omega) f87 k88 hf89) mf_X12_hoursBy w_1597 0 k104 rfl rfl rfl (Nat.le_of_ble_eq_true rfl) ⟨(Nat.le_of_ble_eq_true rfl), (Nat.le_of_ble_eq_true rfl)⟩ ⟨(Nat.le_of_ble_eq_true rfl), (Nat.le_of_ble_eq_true rfl)⟩ dX12_flock_150 rfl (fun r133 w134 h132 => ?_)
                                obtain ⟨hW135, x136⟩ := h132
                                refine x_ws hW135 ?_
                                refine x_top (show r133 = nI (fh d h) from x136.trans (by rw [fh_p h (by omega), hfi])) ?_
                                obtain ⟨w137, hw138⟩ : ∃ w : va_W, w = List.set wl70 29 (iA E (a 29) 273 (upd f87 ((21 * d) + h) (nI (fh d h)))) := ⟨_, rfl⟩
                                refine x_iask C ((21 * d) + h) (nI_clamp (by omega)) (nI_pos (by omega)) (by omega) 29 k88 hw138.symm dX12_flock_153 rfl ?_
                                have hW139 : WX (okM E a cd) w137 := by rw [hw138]; exact hWl70.set (k := 29) rfl ⟨_, rfl⟩
                                have k140 : w137[29]? = some (iA E (a 29) 273 (upd f87 ((21 * d) + h) (nI (fh d h)))) := by rw [hw138]; exact set_eq k88
                                have k141 : w137[0]? = some (ob (a 0) 11 [.ref (a 1), .ref (a 2), .ref (a 3), .ref (a 4), .int (nI n105), .int (nI n107), .int (nI n109), .int v111, .int v112, .int v113, .int (nI n114), .int (nI n116), .int (nI n118), .int (nI (cd.2.2.2.2.2)), .ref (a 5), .ref (a 6), .ref (a 7), .ref (a 8), .ref (a 9), .ref (a 10), .ref (a 11), .ref (a 12), .ref (a 13), .ref (a 14), .ref (a 15), .ref (a 16), .ref (a 17), .int (nI n120), .ref (a 18), .ref (a 19), .ref (a 20), .ref (a 21), .int v122, .int v123, .int v124, .int v125, .int (nI n126), .int (nI n128), .ref (a 22), .ref (a 23), .ref (a 24), .ref (a 25), .ref (a 26), .ref (a 27), .ref (a 28), .ref (a 29), .ref (a 30), .int v130]) := by rw [hw138]; exact set_ne k104 (by decide)
                                refine x_iload C dX12_flock_154 6 rfl rfl ?_
                                refine x_iload_n C dX12_flock_156 rfl 1 rfl rfl ?_
                                refine x_icmp_ne C (tgt := 164) dX12_flock_157 (by decide) rfl (fun c142 => ?_) (fun c142 => ?_)
                                · skip
                                  have nf143 : ¬ h = j11 := fun q => c142 (congrArg nI q)
                                  refine x_iinc C (v := (nI (h + 1))) (lv' := [(6, .int (nI (h + 1))), (0, .ref (a 0)), (1, .int (nI j11)), (2, .int (nI j25)), (3, .int (nI j39)), (4, .int z70_4), (5, .int (nI d)), (7, .int (nI fi)), (8, .int (nI x))]) dX12_flock_164 6 rfl (nI_add h 1) (by decide) rfl rfl ?_
                                  refine x_goto C (tgt := 70) dX12_flock_167 (by decide) ?_
                                  refine x_lv (lv1 := [(0, .ref (a 0)), (1, .int (nI j11)), (2, .int (nI j25)), (3, .int (nI j39)), (4, .int z70_4), (5, .int (nI d)), (6, .int (nI (h + 1)))]) [1, 2, 3, 4, 5, 6, 0] rfl ?_
                                  exact ih70 z70_4 (h + 1) w137 hW139 (by omega) (by omega) ⟨_, k140, mlr hf89 (by omega), mls hf90⟩ (fun q9 => iv70_2 (by omega))
                                · skip
                                  have nf144 : h = j11 := (nI_eq (by omega) (by omega)).mp c142
                                  refine x_iload C dX12_flock_160 7 rfl rfl ?_
                                  refine x_istore C (lv' := [(4, .int (nI fi)), (0, .ref (a 0)), (1, .int (nI j11)), (2, .int (nI j25)), (3, .int (nI j39)), (5, .int (nI d)), (6, .int (nI h)), (7, .int (nI fi)), (8, .int (nI x))]) dX12_flock_162 (by decide) rfl rfl ?_
                                  refine x_iinc C (v := (nI (h + 1))) (lv' := [(6, .int (nI (h + 1))), (4, .int (nI fi)), (0, .ref (a 0)), (1, .int (nI j11)), (2, .int (nI j25)), (3, .int (nI j39)), (5, .int (nI d)), (7, .int (nI fi)), (8, .int (nI x))]) dX12_flock_164 6 rfl (nI_add h 1) (by decide) rfl rfl ?_
                                  refine x_goto C (tgt := 70) dX12_flock_167 (by decide) ?_
                                  refine x_lv (lv1 := [(0, .ref (a 0)), (1, .int (nI j11)), (2, .int (nI j25)), (3, .int (nI j39)), (4, .int (nI fi)), (5, .int (nI d)), (6, .int (nI (h + 1)))]) [2, 3, 4, 5, 1, 6, 0] rfl ?_
                                  exact ih70 ((nI fi)) (h + 1) w137 hW139 (by omega) (by omega) ⟨_, k140, mlr hf89 (by omega), mls hf90⟩ (fun q9 => by rw [hfi, show h = j11 from by omega])
                              · skip
                                have nf145 := nI_nlt' (a := (mn h)) (b := x) c102 (by omega) (by omega)
                                refine x_aload_n C dX12_flock_98 rfl 0 rfl rfl ?_
                                refine x_iload C dX12_flock_99 5 rfl rfl ?_
                                refine x_iload C dX12_flock_101 6 rfl rfl ?_
                                refine x_iload C dX12_flock_103 8 rfl rfl ?_
                                obtain ⟨_, k146, n147, n149, n151, v153, v154, v155, n156, n158, n160, n162, v164, v165, v166, v167, n168, n170, v172, bn148, bn150, bn152, bn157, bn159, bn161, bn163, bn169, bn171, zv173, rfl⟩ := hWl70 0 _ rfl
                                refine x_vi C (As := [.int (nI d), .int (nI h), .int (nI x)]) (rest := []) (m_hoursByX E l a cd hG wl70 hWl70 d h x (by omega) (by omega) f87 k88 hf89) mf_X12_hoursBy w_1597 0 k146 rfl rfl rfl (Nat.le_of_ble_eq_true rfl) ⟨(Nat.le_of_ble_eq_true rfl), (Nat.le_of_ble_eq_true rfl)⟩ ⟨(Nat.le_of_ble_eq_true rfl), (Nat.le_of_ble_eq_true rfl)⟩ dX12_flock_105 rfl (fun r175 w176 h174 => ?_)
                                obtain ⟨hW177, x178⟩ := h174
                                refine x_ws hW177 ?_
                                refine x_top (show r175 = nI (fv (fh (d - 1)) h x) from x178) ?_
                                have hv179 := fv_le (d := d - 1) (h := h) (x := x) (by omega) (by omega)
                                refine x_aload_n C dX12_flock_108 rfl 0 rfl rfl ?_
                                refine x_iload C dX12_flock_109 5 rfl rfl ?_
                                refine x_iload C dX12_flock_111 6 rfl rfl ?_
                                refine x_iload C dX12_flock_113 7 rfl rfl ?_
                                refine x_vi C (As := [.int (nI d), .int (nI h), .int (nI fi)]) (rest := [.int (nI (fv (fh (d - 1)) h x))]) (m_hoursByX E l a cd hG wl70 hWl70 d h fi (by omega) (by omega) f87 k88 hf89) mf_X12_hoursBy w_1597 0 k146 rfl rfl rfl (Nat.le_of_ble_eq_true rfl) ⟨(Nat.le_of_ble_eq_true rfl), (Nat.le_of_ble_eq_true rfl)⟩ ⟨(Nat.le_of_ble_eq_true rfl), (Nat.le_of_ble_eq_true rfl)⟩ dX12_flock_115 rfl (fun r181 w182 h180 => ?_)
                                obtain ⟨hW183, x184⟩ := h180
                                refine x_ws hW183 ?_
                                refine x_top (show r181 = nI (fv (fh (d - 1)) h fi) from x184) ?_
                                have hv185 := fv_le (d := d - 1) (h := h) (x := fi) (by omega) (by omega)
                                refine x_icmp_le C (tgt := 125) dX12_flock_118 (by decide) rfl (fun c186 => ?_) (fun c186 => ?_)
                                · skip
                                  have nf187 := nI_le' (a := (fv (fh (d - 1)) h x)) (b := (fv (fh (d - 1)) h fi)) c186 (by omega) (by omega)
                                  refine x_iinc C (v := (nI (x + 1))) (lv' := [(8, .int (nI (x + 1))), (0, .ref (a 0)), (1, .int (nI j11)), (2, .int (nI j25)), (3, .int (nI j39)), (4, .int z70_4), (5, .int (nI d)), (6, .int (nI h)), (7, .int (nI fi))]) dX12_flock_125 8 rfl (nI_add x 1) (by decide) rfl rfl ?_
                                  refine x_goto C (tgt := 83) dX12_flock_128 (by decide) ?_
                                  refine x_lv (lv1 := [(0, .ref (a 0)), (1, .int (nI j11)), (2, .int (nI j25)), (3, .int (nI j39)), (4, .int z70_4), (5, .int (nI d)), (6, .int (nI h)), (7, .int (nI fi)), (8, .int (nI (x + 1)))]) [1, 2, 3, 4, 5, 6, 7, 8, 0] rfl ?_
                                  exact ih83 fi (x + 1) trivial (by omega) (by omega) (sc_n (by omega) iv83_1 (by omega))
                                · skip
                                  have nf188 := nI_nle' (a := (fv (fh (d - 1)) h x)) (b := (fv (fh (d - 1)) h fi)) c186 (by omega) (by omega)
                                  refine x_iload C dX12_flock_121 8 rfl rfl ?_
                                  refine x_istore C (lv' := [(7, .int (nI x)), (0, .ref (a 0)), (1, .int (nI j11)), (2, .int (nI j25)), (3, .int (nI j39)), (4, .int z70_4), (5, .int (nI d)), (6, .int (nI h)), (8, .int (nI x))]) dX12_flock_123 (by decide) rfl rfl ?_
                                  refine x_iinc C (v := (nI (x + 1))) (lv' := [(8, .int (nI (x + 1))), (7, .int (nI x)), (0, .ref (a 0)), (1, .int (nI j11)), (2, .int (nI j25)), (3, .int (nI j39)), (4, .int z70_4), (5, .int (nI d)), (6, .int (nI h))]) dX12_flock_125 8 rfl (nI_add x 1) (by decide) rfl rfl ?_
                                  refine x_goto C (tgt := 83) dX12_flock_128 (by decide) ?_
                                  refine x_lv (lv1 := [(0, .ref (a 0)), (1, .int (nI j11)), (2, .int (nI j25)), (3, .int (nI j39)), (4, .int z70_4), (5, .int (nI d)), (6, .int (nI h)), (7, .int (nI x)), (8, .int (nI (x + 1)))]) [2, 3, 4, 5, 6, 7, 8, 1, 0] rfl ?_
                                  exact ih83 x (x + 1) trivial (by omega) (by omega) (sc_u (by omega) iv83_1 (by omega))
                          refine x_lv (lv1 := [(0, .ref (a 0)), (1, .int (nI j11)), (2, .int (nI j25)), (3, .int (nI j39)), (4, .int z70_4), (5, .int (nI d)), (6, .int (nI h)), (7, .int 0), (8, .int 1)]) [2, 3, 4, 5, 6, 7, 8, 1, 0] rfl ?_
                          exact loop83 _ 0 1 trivial (Nat.lt_succ_self _) (by omega) rfl
                    refine x_lv (lv1 := [(0, .ref (a 0)), (1, .int (nI j11)), (2, .int (nI j25)), (3, .int (nI j39)), (4, .int z61_4), (5, .int (nI d)), (6, .int 1)]) [1, 2, 3, 4, 5, 6, 0] rfl ?_
                    exact loop70 _ z61_4 1 wl61 hWl61 (Nat.lt_succ_self _) (by omega) ⟨_, k51, hf52, fun j a9 b9 => absurd b9 (by omega)⟩ (fun q => absurd q (by omega))
              refine x_lv (lv1 := [(0, .ref (a 0)), (1, .int (nI j11)), (2, .int (nI j25)), (3, .int (nI j39)), (4, .int 0), (5, .int 1)]) [1, 2, 3, 4, 5, 0] rfl ?_
              exact loop61 _ (0 : Int32) 1 wl37 hWl37 (Nat.lt_succ_self _) (by omega) ⟨_, k46, mrow_0 (fun j hj => hf47 j (by omega))⟩ (fun q => absurd q (by omega))
            · skip
              have nf189 := nI_nlt' (a := 20) (b := h) c48 (by omega) (by omega)
              refine x_aload_n C dX12_flock_44 rfl 0 rfl rfl ?_
              obtain ⟨_, k190, n191, n193, n195, v197, v198, v199, n200, n202, n204, n206, v208, v209, v210, v211, n212, n214, v216, bn192, bn194, bn196, bn201, bn203, bn205, bn207, bn213, bn215, zv217, rfl⟩ := hWl37 0 _ rfl
              refine x_get C (ci := 11) (k := 45) 0 k190 rfl in_X12 (by decide) w_1163 rfl dX12_flock_45 rfl ?_
              refine x_iload C dX12_flock_48 5 rfl rfl ?_
              refine x_iconst C (v := 0) dX12_flock_50 (by decide) rfl ?_
              obtain ⟨w218, hw219⟩ : ∃ w : va_W, w = List.set wl37 29 (iA E (a 29) 273 (upd f45 h (0 : Int32))) := ⟨_, rfl⟩
              refine x_iask C h (nI_clamp (by omega)) (nI_pos (by omega)) (by omega) 29 k46 hw219.symm dX12_flock_51 rfl ?_
              have hW220 : WX (okM E a cd) w218 := by rw [hw219]; exact hWl37.set (k := 29) rfl ⟨_, rfl⟩
              have k221 : w218[29]? = some (iA E (a 29) 273 (upd f45 h (0 : Int32))) := by rw [hw219]; exact set_eq k46
              have k222 : w218[0]? = some (ob (a 0) 11 [.ref (a 1), .ref (a 2), .ref (a 3), .ref (a 4), .int (nI n191), .int (nI n193), .int (nI n195), .int v197, .int v198, .int v199, .int (nI n200), .int (nI n202), .int (nI n204), .int (nI (cd.2.2.2.2.2)), .ref (a 5), .ref (a 6), .ref (a 7), .ref (a 8), .ref (a 9), .ref (a 10), .ref (a 11), .ref (a 12), .ref (a 13), .ref (a 14), .ref (a 15), .ref (a 16), .ref (a 17), .int (nI n206), .ref (a 18), .ref (a 19), .ref (a 20), .ref (a 21), .int v208, .int v209, .int v210, .int v211, .int (nI n212), .int (nI n214), .ref (a 22), .ref (a 23), .ref (a 24), .ref (a 25), .ref (a 26), .ref (a 27), .ref (a 28), .ref (a 29), .ref (a 30), .int v216]) := by rw [hw219]; exact set_ne k190 (by decide)
              refine x_iinc C (v := (nI (h + 1))) (lv' := [(5, .int (nI (h + 1))), (0, .ref (a 0)), (1, .int (nI j11)), (2, .int (nI j25)), (3, .int (nI j39)), (4, .int 0)]) dX12_flock_52 5 rfl (nI_add h 1) (by decide) rfl rfl ?_
              refine x_goto C (tgt := 37) dX12_flock_55 (by decide) ?_
              refine x_lv (lv1 := [(0, .ref (a 0)), (1, .int (nI j11)), (2, .int (nI j25)), (3, .int (nI j39)), (4, .int 0), (5, .int (nI (h + 1)))]) [1, 2, 3, 4, 5, 0] rfl ?_
              exact ih37 (h + 1) w218 hW220 (by omega) (by omega) ⟨_, k221, zf21 hf47⟩
        refine x_lv (lv1 := [(0, .ref (a 0)), (1, .int (nI j11)), (2, .int (nI j25)), (3, .int (nI j39)), (4, .int 0), (5, .int 0)]) [2, 3, 4, 5, 1, 0] rfl ?_
        exact loop37 _ 0 ws hW (Nat.lt_succ_self _) (by omega) ⟨_, k43, fun j hj => absurd hj (by omega)⟩
      · refine x_top e37 ?_
        refine x_if_ne C (tgt := 31) dX12_flock_26 (by decide) rfl (fun h => absurd h (by decide)) (fun _ => ?_)
        refine x_iconst C (v := (-1)) dX12_flock_29 (by decide) rfl ?_
        exact x_zret C hr hlk rfl dX12_flock_30 ⟨hW, (flk_no (fun q => hw38 q.2.2)).symm⟩
    · refine x_top e23 ?_
      refine x_if_eq C (tgt := 29) dX12_flock_17 (by decide) rfl (fun _ => ?_) (fun h => absurd h (by decide))
      refine x_iconst C (v := (-1)) dX12_flock_29 (by decide) rfl ?_
      exact x_zret C hr hlk rfl dX12_flock_30 ⟨hW, (flk_no (fun q => hw24 q.2.1)).symm⟩
  · refine x_top e9 ?_
    refine x_if_eq C (tgt := 29) dX12_flock_7 (by decide) rfl (fun _ => ?_) (fun h => absurd h (by decide))
    refine x_iconst C (v := (-1)) dX12_flock_29 (by decide) rfl ?_
    exact x_zret C hr hlk rfl dX12_flock_30 ⟨hW, (flk_no (fun q => hw10 q.1)).symm⟩
