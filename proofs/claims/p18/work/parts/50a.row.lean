/-! the flock, as numbers -/
def fv (f : Nat → Nat) (h x : Nat) : Nat := h - x + f (h + x)
def sc (f : Nat → Nat) (h : Nat) : Nat → Nat
  | 0 => 0
  | k + 1 => if fv f h (sc f h k) < fv f h (k + 1) then k + 1 else sc f h k
def mn (h : Nat) : Nat := if h < 20 - h then h else 20 - h
def fh : Nat → Nat → Nat
  | 0, _ => 0
  | d + 1, h => fv (fh d) h (sc (fh d) h (mn h))
def fb (d h : Nat) : Nat := sc (fh d) h (mn h)
theorem fh_s (d h : Nat) : fh (d + 1) h = fv (fh d) h (fb d h) := rfl
theorem sc_le (f : Nat → Nat) (h k : Nat) : sc f h k ≤ k := by
  induction k with
  | zero => exact Nat.le_refl 0
  | succ k ih =>
    rw [sc]
    split <;> omega
theorem mn_le (h : Nat) : mn h ≤ h := by
  rw [mn]
  split <;> omega
theorem mn_20 {h : Nat} (hh : h ≤ 20) : h + mn h ≤ 20 := by
  rw [mn]
  split <;> omega
theorem mn_eq {h k : Nat} (hh : h ≤ 20) (h1 : k ≤ mn h + 1) (h2 : h < k ∨ 20 < h + k) : k = mn h + 1 := by
  have e : mn h = if h < 20 - h then h else 20 - h := rfl
  by_cases q : h < 20 - h
  · rw [if_pos q] at e; omega
  · rw [if_neg q] at e; omega
theorem mn_in {h k : Nat} (h1 : k ≤ h) (h2 : h + k ≤ 20) : k ≤ mn h := by
  rw [mn]
  split <;> omega
theorem fb_le (d h : Nat) : fb d h ≤ mn h := sc_le _ _ _
theorem fh_le (d : Nat) : ∀ h, h ≤ 20 → fh d h ≤ 20 * d := by
  induction d with
  | zero => intro h _; exact Nat.le_refl 0
  | succ d ih =>
    intro h hh
    rw [fh_s, fv]
    have h1 := fb_le d h
    have h2 := mn_20 hh
    have h3 := ih (h + fb d h) (by omega)
    omega
def flk (a n v : Int32) : Int32 := if wth a 1 20 ∧ wth n 1 12 ∧ wth v 0 1 then (if v = 0 then nI (fh n.toNatClampNeg a.toNatClampNeg) else nI (fb (n.toNatClampNeg - 1) a.toNatClampNeg)) else -1
theorem nI_m1 {a : Nat} (h : a < 2 ^ 31) : ¬ nI a ≤ -1 := by
  rw [Int32.le_iff_toInt_le, nI_toInt h]
  have : (-1 : Int32).toInt = -1 := by decide
  omega
def bhI (g : Nat → Nat) (h k : Nat) (best most : Int32) : Prop := (k = 0 ∧ best = 0 ∧ most = -1) ∨ ∃ k', k = k' + 1 ∧ best = nI (sc g h k') ∧ most = nI (fv g h (sc g h k'))
theorem bhI_up {g : Nat → Nat} {h k : Nat} {best most : Int32} (hb : ∀ j, j ≤ 20 → g j ≤ 1000) (hk : k ≤ h) (hh : h + k ≤ 20) (I : bhI g h k best most) (c : ¬ nI (fv g h k) ≤ most) : bhI g h (k + 1) (nI k) (nI (fv g h k)) := by
  have b1 := hb (h + k) hh
  rcases I with ⟨rfl, -, -⟩ | ⟨k', rfl, -, e2⟩
  · exact Or.inr ⟨0, rfl, rfl, rfl⟩
  · refine Or.inr ⟨k' + 1, rfl, ?_, ?_⟩
    all_goals
      have hs := sc_le g h k'
      have b2 := hb (h + sc g h k') (by omega)
      rw [e2] at c
      have := nI_nle' c (by rw [fv]; omega) (by rw [fv]; omega)
      rw [sc, if_pos this]
theorem bhI_no {g : Nat → Nat} {h k : Nat} {best most : Int32} (hb : ∀ j, j ≤ 20 → g j ≤ 1000) (hk : k ≤ h) (hh : h + k ≤ 20) (I : bhI g h k best most) (c : nI (fv g h k) ≤ most) : bhI g h (k + 1) best most := by
  have b1 := hb (h + k) hh
  rcases I with ⟨rfl, -, e⟩ | ⟨k', rfl, e1, e2⟩
  · rw [e] at c
    exact absurd c (nI_m1 (by rw [fv]; omega))
  · refine Or.inr ⟨k' + 1, rfl, ?_, ?_⟩
    all_goals
      have hs := sc_le g h k'
      have b2 := hb (h + sc g h k') (by omega)
      have c2 := c
      rw [e2] at c2
      have := nI_le' c2 (by rw [fv]; omega) (by rw [fv]; omega)
      rw [sc, if_neg (by omega)]
      assumption
theorem bhI_end {g : Nat → Nat} {h k : Nat} {best most : Int32} (I : bhI g h k best most) (hk : k = mn h + 1) : best = nI (sc g h (mn h)) := by
  rcases I with ⟨rfl, -, -⟩ | ⟨k', e, e1, -⟩
  · omega
  · have : k' = mn h := by omega
    rw [← this]; exact e1

theorem fl_step {f : Nat → Int32} {d h : Nat} (hf : ∀ j, 1 ≤ j → j ≤ 20 → f j = nI (if j < h then fh (d + 1) j else fh d j)) (_ : h ≤ 20) (_ : 1 ≤ h) (_ : h < 2 ^ 31) : ∀ j, 1 ≤ j → j ≤ 20 → upd f h (nI (fh (d + 1) h)) j = nI (if j < h + 1 then fh (d + 1) j else fh d j) := by
  intro j h1 h2
  by_cases e : j = h
  · subst e; rw [pk_us, if_pos (by omega)]
  · rw [pk_un e, hf j h1 h2]
    by_cases q : j < h
    · rw [if_pos q, if_pos (by omega)]
    · rw [if_neg q, if_neg (by omega)]
theorem ml_row {f : Nat → Int32} {d h : Nat} {v : Int32} (hf : ∀ j, 1 ≤ j → j ≤ 20 → f (21 * d + j) = nI (fh d j)) (_ : 1 ≤ h) : ∀ j, 1 ≤ j → j ≤ 20 → upd f (21 * (d + 1) + h) v (21 * d + j) = nI (fh d j) := by
  intro j h1 h2
  rw [pk_un (by omega)]
  exact hf j h1 h2
theorem ml_step {f : Nat → Int32} {d h : Nat} (hf : ∀ j, 1 ≤ j → j < h → f (21 * (d + 1) + j) = nI (fh (d + 1) j)) (_ : 1 ≤ h) : ∀ j, 1 ≤ j → j < h + 1 → upd f (21 * (d + 1) + h) (nI (fh (d + 1) h)) (21 * (d + 1) + j) = nI (fh (d + 1) j) := by
  intro j h1 h2
  by_cases e : j = h
  · subst e; exact pk_us
  · rw [pk_un (by omega)]
    exact hf j h1 (by omega)
theorem flk_no {a n v : Int32} (h : ¬ (wth a 1 20 ∧ wth n 1 12 ∧ wth v 0 1)) : flk a n v = -1 := by rw [flk, if_neg h]
theorem flk_0 {a n : Nat} {v : Nat} (h : wth (nI a) 1 20 ∧ wth (nI n) 1 12 ∧ wth (nI v) 0 1) (ha : a < 2 ^ 31) (hn : n < 2 ^ 31) (hv : v = 0) : nI (fh n a) = flk (nI a) (nI n) (nI v) := by
  subst hv
  rw [flk, if_pos h, if_pos (show nI 0 = (0 : Int32) from by decide), nI_clamp ha, nI_clamp hn]
theorem flk_1 {a n : Nat} {v : Nat} {z : Int32} (h : wth (nI a) 1 20 ∧ wth (nI n) 1 12 ∧ wth (nI v) 0 1) (ha : a < 2 ^ 31) (hn : n < 2 ^ 31) (hv : ¬ v = 0) (hv2 : v < 2 ^ 31) (hz : z = nI (fb (n - 1) a)) : z = flk (nI a) (nI n) (nI v) := by
  rw [flk, if_pos h, if_neg (show ¬ nI v = (0 : Int32) from fun q => hv ((nI_eq (b := 0) hv2 (by omega)).mp q)), nI_clamp ha, nI_clamp hn]; exact hz
theorem fz_0 {f : Nat → Int32} (h : ∀ j, j < 21 → f j = 0) : ∀ j, 1 ≤ j → j ≤ 20 → f j = nI (fh 0 j) := fun j _ h2 => h j (by omega)
theorem zf21 {g : Nat → Int32} {k : Nat} (hz : ∀ j, j < k → g j = 0) : ∀ j, j < k + 1 → upd g k 0 j = 0 := by
  intro j hj
  by_cases e : j = k
  · subst e; rw [pk_us]
  · rw [pk_un e]; exact hz j (by omega)
theorem row_0 {f : Nat → Int32} {d : Nat} (h : ∀ j, 1 ≤ j → j ≤ 20 → f j = nI (fh d j)) : ∀ j, 1 ≤ j → j ≤ 20 → f j = nI (if j < 1 then fh (d + 1) j else fh d j) := fun j h1 h2 => by rw [if_neg (by omega)]; exact h j h1 h2
theorem row_21 {f : Nat → Int32} {d h : Nat} (hf : ∀ j, 1 ≤ j → j ≤ 20 → f j = nI (if j < h then fh (d + 1) j else fh d j)) (hh : 20 < h) : ∀ j, 1 ≤ j → j ≤ 20 → f j = nI (fh (d + 1) j) := fun j h1 h2 => by rw [hf j h1 h2, if_pos (by omega)]
theorem row_hi {f : Nat → Int32} {d h : Nat} (hf : ∀ j, 1 ≤ j → j ≤ 20 → f j = nI (if j < h then fh (d + 1) j else fh d j)) (h1 : 1 ≤ h) : ∀ j, h ≤ j → j ≤ 20 → f j = nI (fh d j) := fun j a b => by rw [hf j (by omega) b, if_neg (by omega)]
theorem fh_1000 {d : Nat} (hd : d ≤ 12) : ∀ j, j ≤ 20 → fh d j ≤ 1000 := fun j hj => Nat.le_trans (fh_le d j hj) (by omega)
set_option maxRecDepth 20000 in
set_option maxHeartbeats 4000000 in
theorem c_isWithinX (E : xE) (l : Launch) (a : Nat → Nat) (ws : va_W) (hW : WX (okX E a) ws) (v : Int32) (lo : Int32) (hi : Int32) : xI E l yX11_isWithin cX11_isWithin 3 (some .boolean) 0 [.int v, .int lo, .int hi] ws (fun r w => w = ws ∧ zb r ∧ ((¬ r = 0 ∧ wth v lo hi) ∨ (r = 0 ∧ ¬ wth v lo hi))) := by
  refine xI_start (lv := [(0, .int v), (1, .int lo), (2, .int hi)]) RX11 (by decide) rfl (Nat.le_of_ble_eq_true rfl) rfl (fun p e s m below meth c A C hr hlk => ?_)
  refine x_iload_n C dX11_isWithin_0 rfl 0 rfl rfl ?_
  refine x_iload_n C dX11_isWithin_1 rfl 1 rfl rfl ?_
  refine x_icmp_lt C (tgt := 14) dX11_isWithin_2 (by decide) rfl (fun c1 => ?_) (fun c1 => ?_)
  · skip
    refine x_iconst C (v := 0) dX11_isWithin_14 (by decide) rfl ?_
    exact x_zret C hr hlk rfl dX11_isWithin_15 ⟨rfl, (Or.inl rfl), (Or.inr ⟨rfl, fun q => q.1 c1⟩)⟩
  · skip
    refine x_iload_n C dX11_isWithin_5 rfl 0 rfl rfl ?_
    refine x_iload_n C dX11_isWithin_6 rfl 2 rfl rfl ?_
    refine x_icmp_gt C (tgt := 14) dX11_isWithin_7 (by decide) rfl (fun c2 => ?_) (fun c2 => ?_)
    · skip
      refine x_iconst C (v := 0) dX11_isWithin_14 (by decide) rfl ?_
      exact x_zret C hr hlk rfl dX11_isWithin_15 ⟨rfl, (Or.inl rfl), (Or.inr ⟨rfl, fun q => q.2 c2⟩)⟩
    · skip
      refine x_iconst C (v := 1) dX11_isWithin_10 (by decide) rfl ?_
      refine x_goto C (tgt := 15) dX11_isWithin_11 (by decide) ?_
      exact x_zret C hr hlk rfl dX11_isWithin_15 ⟨rfl, (Or.inr rfl), (Or.inl ⟨by decide, ⟨c1, c2⟩⟩)⟩
set_option maxRecDepth 20000 in
set_option maxHeartbeats 4000000 in
theorem c_bestHatchX (E : xE) (l : Launch) (a : Nat → Nat) (ws : va_W) (hW : WX (okX E a) ws) (h0 : Nat) (hh0 : 1 ≤ h0 ∧ h0 ≤ 20) (g : Nat → Nat) (hg : ∀ j, j ≤ 20 → g j ≤ 1000) (ff : Nat → Int32) (hff : ws[108]? = some (iA E (a 108) 21 ff)) (hfg : ∀ j, h0 ≤ j → j ≤ 20 → ff j = nI (g j)) : xI E l yX11_bestHatch cX11_bestHatch 6 (some .int) 0 [.ref (a 0), .int (nI h0)] ws (fun r w => w = ws ∧ (r = nI (sc g h0 (mn h0)))) := by
  refine xI_start (lv := [(0, .ref (a 0)), (1, .int (nI h0))]) RX11 (by decide) rfl (Nat.le_of_ble_eq_true rfl) rfl (fun p e s m below meth c A C hr hlk => ?_)
  have hmn := mn_le h0
  refine x_iconst C (v := 0) dX11_bestHatch_0 (by decide) rfl ?_
  refine x_istore_n C (lv' := [(2, .int 0), (0, .ref (a 0)), (1, .int (nI h0))]) dX11_bestHatch_1 rfl (by decide) rfl rfl ?_
  refine x_iconst C (v := (-1)) dX11_bestHatch_2 (by decide) rfl ?_
  refine x_istore_n C (lv' := [(3, .int (-1)), (2, .int 0), (0, .ref (a 0)), (1, .int (nI h0))]) dX11_bestHatch_3 rfl (by decide) rfl rfl ?_
  refine x_iconst C (v := 0) dX11_bestHatch_4 (by decide) rfl ?_
  refine x_istore C (lv' := [(4, .int 0), (3, .int (-1)), (2, .int 0), (0, .ref (a 0)), (1, .int (nI h0))]) dX11_bestHatch_5 (by decide) rfl rfl ?_
  have loop7 : ∀ (fu7 : Nat) (z7_2 : Int32) (z7_3 : Int32) (k : Nat), True → 21 - k < fu7 → k ≤ mn h0 + 1 → bhI g h0 k z7_2 z7_3 → X E p l e (xRm 0 0 0) s m ([.ref (a 0), .int (nI h0)] : List Value).toArray below meth c A 6 0 0 (MQ below (va_Qi (fun r w => w = ws ∧ (r = nI (sc g h0 (mn h0)))) (xB E A) A) ([.ref (a 0), .int (nI h0)] : List Value).toArray s 0 0 A) ws 7 [(0, .ref (a 0)), (1, .int (nI h0)), (2, .int z7_2), (3, .int z7_3), (4, .int (nI k))] [] := by
    intro fu7
    induction fu7 with
    | zero => intro z7_2 z7_3 k _ q; omega
    | succ fu7 ih7 =>
      intro z7_2 z7_3 k _ me7 iv7_0 iv7_1
      refine x_iload C dX11_bestHatch_7 4 rfl rfl ?_
      refine x_iload_n C dX11_bestHatch_9 rfl 1 rfl rfl ?_
      refine x_icmp_gt C (tgt := 56) dX11_bestHatch_10 (by decide) rfl (fun c1 => ?_) (fun c1 => ?_)
      · skip
        have nf2 := nI_lt' (a := h0) (b := k) c1 (by omega) (by omega)
        refine x_iload_n C dX11_bestHatch_56 rfl 2 rfl rfl ?_
        exact x_zret C hr hlk rfl dX11_bestHatch_57 ⟨rfl, (bhI_end iv7_1 (mn_eq (by omega) iv7_0 (by omega)))⟩
      · skip
        have nf3 := nI_nlt' (a := h0) (b := k) c1 (by omega) (by omega)
        refine x_iload_n C dX11_bestHatch_13 rfl 1 rfl rfl ?_
        refine x_iload C dX11_bestHatch_14 4 rfl rfl ?_
        refine x_iadd C (v := (nI (h0 + k))) dX11_bestHatch_16 (nI_add h0 k) rfl ?_
        refine x_bipush C (v := 20) dX11_bestHatch_17 (by decide) rfl ?_
        refine x_icmp_gt C (tgt := 56) dX11_bestHatch_19 (by decide) rfl (fun c4 => ?_) (fun c4 => ?_)
        · skip
          have nf5 := nI_lt' (a := 20) (b := (h0 + k)) c4 (by omega) (by omega)
          refine x_iload_n C dX11_bestHatch_56 rfl 2 rfl rfl ?_
          exact x_zret C hr hlk rfl dX11_bestHatch_57 ⟨rfl, (bhI_end iv7_1 (mn_eq (by omega) iv7_0 (by omega)))⟩
        · skip
          have nf6 := nI_nlt' (a := 20) (b := (h0 + k)) c4 (by omega) (by omega)
          refine x_iload_n C dX11_bestHatch_22 rfl 1 rfl rfl ?_
          refine x_iload C dX11_bestHatch_23 4 rfl rfl ?_
          refine x_isub C (v := (nI (h0 - k))) dX11_bestHatch_25 (pk_sub (a := h0) (b := k) (by omega)) rfl ?_
          refine x_aload_n C dX11_bestHatch_26 rfl 0 rfl rfl ?_
          obtain ⟨_, k7, v8, rfl⟩ := hW 0 _ rfl
          refine x_get C (ci := 10) (k := 14) 0 k7 rfl in_X11 (by decide) w_399 rfl dX11_bestHatch_27 rfl ?_
          refine x_iload_n C dX11_bestHatch_30 rfl 1 rfl rfl ?_
          refine x_iload C dX11_bestHatch_31 4 rfl rfl ?_
          refine x_iadd C (v := (nI (h0 + k))) dX11_bestHatch_33 (nI_add h0 k) rfl ?_
          refine x_ialk C (v := (ff (h0 + k))) (h0 + k) (nI_clamp (by omega)) (nI_pos (by omega)) (by omega) 108 hff rfl dX11_bestHatch_34 rfl ?_
          refine x_top (hfg (h0 + k) (by omega) (by omega)) ?_
          refine x_iadd C (v := (nI ((h0 - k) + (g (h0 + k))))) dX11_bestHatch_35 (nI_add (h0 - k) (g (h0 + k))) rfl ?_
          refine x_istore C (lv' := [(5, .int (nI ((h0 - k) + (g (h0 + k))))), (0, .ref (a 0)), (1, .int (nI h0)), (2, .int z7_2), (3, .int z7_3), (4, .int (nI k))]) dX11_bestHatch_36 (by decide) rfl rfl ?_
          refine x_iload C dX11_bestHatch_38 0 rfl rfl ?_
          refine x_iload_n C dX11_bestHatch_40 rfl 4 rfl rfl ?_
          refine x_icmp_le C (tgt := 50) dX11_bestHatch_41 (by decide) rfl (fun c9 => ?_) (fun c9 => ?_)
          · skip
            refine x_iinc C (v := (nI (k + 1))) (lv' := [(4, .int (nI (k + 1))), (5, .int (nI ((h0 - k) + (g (h0 + k))))), (0, .ref (a 0)), (1, .int (nI h0)), (2, .int z7_2), (3, .int z7_3)]) dX11_bestHatch_50 5 rfl (nI_add k 1) (by decide) rfl rfl ?_
            refine x_goto C (tgt := 7) dX11_bestHatch_53 (by decide) ?_
            refine x_lv (lv1 := [(0, .ref (a 0)), (1, .int (nI h0)), (2, .int z7_2), (3, .int z7_3), (4, .int (nI (k + 1)))]) [2, 3, 4, 5, 0] rfl ?_
            exact ih7 z7_2 z7_3 (k + 1) trivial (by omega) (by have q9 := mn_in (h := h0) (k := k) (by omega) (by omega); omega) (bhI_no hg (by omega) (by omega) iv7_1 c9)
          · skip
            refine x_iload C dX11_bestHatch_44 0 rfl rfl ?_
            refine x_istore_n C (lv' := [(3, .int (nI ((h0 - k) + (g (h0 + k))))), (5, .int (nI ((h0 - k) + (g (h0 + k))))), (0, .ref (a 0)), (1, .int (nI h0)), (2, .int z7_2), (4, .int (nI k))]) dX11_bestHatch_46 rfl (by decide) rfl rfl ?_
            refine x_iload C dX11_bestHatch_47 5 rfl rfl ?_
            refine x_istore_n C (lv' := [(2, .int (nI k)), (3, .int (nI ((h0 - k) + (g (h0 + k))))), (5, .int (nI ((h0 - k) + (g (h0 + k))))), (0, .ref (a 0)), (1, .int (nI h0)), (4, .int (nI k))]) dX11_bestHatch_49 rfl (by decide) rfl rfl ?_
            refine x_iinc C (v := (nI (k + 1))) (lv' := [(4, .int (nI (k + 1))), (2, .int (nI k)), (3, .int (nI ((h0 - k) + (g (h0 + k))))), (5, .int (nI ((h0 - k) + (g (h0 + k))))), (0, .ref (a 0)), (1, .int (nI h0))]) dX11_bestHatch_50 5 rfl (nI_add k 1) (by decide) rfl rfl ?_
            refine x_goto C (tgt := 7) dX11_bestHatch_53 (by decide) ?_
            refine x_lv (lv1 := [(0, .ref (a 0)), (1, .int (nI h0)), (2, .int (nI k)), (3, .int (nI ((h0 - k) + (g (h0 + k))))), (4, .int (nI (k + 1)))]) [4, 5, 1, 2, 0] rfl ?_
            exact ih7 ((nI k)) ((nI ((h0 - k) + (g (h0 + k))))) (k + 1) trivial (by omega) (by have q9 := mn_in (h := h0) (k := k) (by omega) (by omega); omega) (bhI_up hg (by omega) (by omega) iv7_1 c9)
  refine x_lv (lv1 := [(0, .ref (a 0)), (1, .int (nI h0)), (2, .int 0), (3, .int (-1)), (4, .int 0)]) [3, 4, 2, 1, 0] rfl ?_
  exact loop7 _ (0 : Int32) ((-1) : Int32) 0 trivial (Nat.lt_succ_self _) (by omega) (Or.inl ⟨rfl, rfl, rfl⟩)
set_option maxRecDepth 20000 in
set_option maxHeartbeats 4000000 in
theorem c_flockX (E : xE) (l : Launch) (a : Nat → Nat) (ws : va_W) (hW : WX (okX E a) ws) (p0 : Int32) (p1 : Int32) (p2 : Int32) : xI E l yX11_flock cX11_flock 8 (some .int) 4 [.ref (a 0), .int p0, .int p1, .int p2] ws (fun r w => WX (okX E a) w ∧ (r = flk p0 p1 p2)) := by
  refine xI_start (lv := [(0, .ref (a 0)), (1, .int p0), (2, .int p1), (3, .int p2)]) RX11 (by decide) rfl (Nat.le_of_ble_eq_true rfl) rfl (fun p e s m below meth c A C hr hlk => ?_)
  refine x_iload_n C dX11_flock_0 rfl 1 rfl rfl ?_
  refine x_iconst C (v := 1) dX11_flock_1 (by decide) rfl ?_
  refine x_bipush C (v := 20) dX11_flock_2 (by decide) rfl ?_
  refine x_si C (As := [.int p0, .int 1, .int 20]) (rest := []) (c_isWithinX E l a ws hW p0 (1 : Int32) (20 : Int32)) mf_X11_isWithin w_462 rfl rfl (Nat.le_of_ble_eq_true rfl) ⟨(Nat.le_of_ble_eq_true rfl), (Nat.le_of_ble_eq_true rfl)⟩ ⟨(Nat.le_of_ble_eq_true rfl), (Nat.le_of_ble_eq_true rfl)⟩ dX11_flock_4 rfl (fun r2 w3 h1 => ?_)
  obtain ⟨hW4, zb5, x6⟩ := h1
  refine x_ws hW4 ?_
  rcases x6 with ⟨hn7, hw8⟩ | ⟨e9, hw10⟩
  · skip
    obtain ⟨j11, hl12, hh13, ej14⟩ := w_nat (a := 1) (b := 20) (by decide) (by decide) hw8
    subst ej14
    refine x_if_eq C (tgt := 29) dX11_flock_7 (by decide) rfl (fun h => absurd h hn7) (fun _ => ?_)
    refine x_iload_n C dX11_flock_10 rfl 2 rfl rfl ?_
    refine x_iconst C (v := 1) dX11_flock_11 (by decide) rfl ?_
    refine x_bipush C (v := 12) dX11_flock_12 (by decide) rfl ?_
    refine x_si C (As := [.int p1, .int 1, .int 12]) (rest := []) (c_isWithinX E l a ws hW p1 (1 : Int32) (12 : Int32)) mf_X11_isWithin w_462 rfl rfl (Nat.le_of_ble_eq_true rfl) ⟨(Nat.le_of_ble_eq_true rfl), (Nat.le_of_ble_eq_true rfl)⟩ ⟨(Nat.le_of_ble_eq_true rfl), (Nat.le_of_ble_eq_true rfl)⟩ dX11_flock_14 rfl (fun r16 w17 h15 => ?_)
    obtain ⟨hW18, zb19, x20⟩ := h15
    refine x_ws hW18 ?_
    rcases x20 with ⟨hn21, hw22⟩ | ⟨e23, hw24⟩
    · skip
      obtain ⟨j25, hl26, hh27, ej28⟩ := w_nat (a := 1) (b := 12) (by decide) (by decide) hw22
      subst ej28
      refine x_if_eq C (tgt := 29) dX11_flock_17 (by decide) rfl (fun h => absurd h hn21) (fun _ => ?_)
      refine x_iload_n C dX11_flock_20 rfl 3 rfl rfl ?_
      refine x_iconst C (v := 0) dX11_flock_21 (by decide) rfl ?_
      refine x_iconst C (v := 1) dX11_flock_22 (by decide) rfl ?_
      refine x_si C (As := [.int p2, .int 0, .int 1]) (rest := []) (c_isWithinX E l a ws hW p2 (0 : Int32) (1 : Int32)) mf_X11_isWithin w_462 rfl rfl (Nat.le_of_ble_eq_true rfl) ⟨(Nat.le_of_ble_eq_true rfl), (Nat.le_of_ble_eq_true rfl)⟩ ⟨(Nat.le_of_ble_eq_true rfl), (Nat.le_of_ble_eq_true rfl)⟩ dX11_flock_23 rfl (fun r30 w31 h29 => ?_)
      obtain ⟨hW32, zb33, x34⟩ := h29
      refine x_ws hW32 ?_
      rcases x34 with ⟨hn35, hw36⟩ | ⟨e37, hw38⟩
      · skip
        obtain ⟨j39, hl40, hh41, ej42⟩ := w_nat (a := 0) (b := 1) (by decide) (by decide) hw36
        subst ej42
        refine x_if_ne C (tgt := 31) dX11_flock_26 (by decide) rfl (fun _ => ?_) (fun h => absurd h hn35)
        obtain ⟨_, k43, f44, rfl⟩ := hW 108 _ rfl
        refine x_iconst C (v := 0) dX11_flock_31 (by decide) rfl ?_
        refine x_istore C (lv' := [(4, .int 0), (0, .ref (a 0)), (1, .int (nI j11)), (2, .int (nI j25)), (3, .int (nI j39))]) dX11_flock_32 (by decide) rfl rfl ?_
        have loop34 : ∀ (fu34 : Nat) (h : Nat) (wl34 : va_W), WX (okX E a) wl34 → 21 - h < fu34 → h ≤ 21 → (∃ f : Nat → Int32, wl34[108]? = some (iA E (a 108) 21 f) ∧ ∀ j, j < h → f j = 0) → X E p l e (xRm 4 0 0) s m ([.ref (a 0), .int (nI j11), .int (nI j25), .int (nI j39)] : List Value).toArray below meth c A 8 0 0 (MQ below (va_Qi (fun r w => WX (okX E a) w ∧ (r = flk (nI j11) (nI j25) (nI j39))) (xB E A) A) ([.ref (a 0), .int (nI j11), .int (nI j25), .int (nI j39)] : List Value).toArray s 0 0 A) wl34 34 [(0, .ref (a 0)), (1, .int (nI j11)), (2, .int (nI j25)), (3, .int (nI j39)), (4, .int (nI h))] [] := by
          intro fu34
          induction fu34 with
          | zero => intro h wl34 _ q; omega
          | succ fu34 ih34 =>
            intro h wl34 hWl34 me34 iv34_0 iv34_1
            obtain ⟨f45, k46, hf47⟩ := iv34_1
            refine x_iload C dX11_flock_34 4 rfl rfl ?_
            refine x_bipush C (v := 20) dX11_flock_36 (by decide) rfl ?_
            refine x_icmp_gt C (tgt := 55) dX11_flock_38 (by decide) rfl (fun c48 => ?_) (fun c48 => ?_)
            · skip
              have nf49 := nI_lt' (a := 20) (b := h) c48 (by omega) (by omega)
              refine x_iconst C (v := 0) dX11_flock_55 (by decide) rfl ?_
              refine x_istore C (lv' := [(4, .int 0), (0, .ref (a 0)), (1, .int (nI j11)), (2, .int (nI j25)), (3, .int (nI j39))]) dX11_flock_56 (by decide) rfl rfl ?_
              refine x_iconst C (v := 0) dX11_flock_58 (by decide) rfl ?_
              refine x_istore C (lv' := [(5, .int 0), (4, .int 0), (0, .ref (a 0)), (1, .int (nI j11)), (2, .int (nI j25)), (3, .int (nI j39))]) dX11_flock_59 (by decide) rfl rfl ?_
              have loop61 : ∀ (fu61 : Nat) (z61_4 : Int32) (d : Nat) (wl61 : va_W), WX (okX E a) wl61 → 12 - d < fu61 → d ≤ j25 → (∃ f : Nat → Int32, wl61[108]? = some (iA E (a 108) 21 f) ∧ ∀ j, 1 ≤ j → j ≤ 20 → f j = nI (fh d j)) → (1 ≤ d → z61_4 = nI (fb (d - 1) j11)) → X E p l e (xRm 4 0 0) s m ([.ref (a 0), .int (nI j11), .int (nI j25), .int (nI j39)] : List Value).toArray below meth c A 8 0 0 (MQ below (va_Qi (fun r w => WX (okX E a) w ∧ (r = flk (nI j11) (nI j25) (nI j39))) (xB E A) A) ([.ref (a 0), .int (nI j11), .int (nI j25), .int (nI j39)] : List Value).toArray s 0 0 A) wl61 61 [(0, .ref (a 0)), (1, .int (nI j11)), (2, .int (nI j25)), (3, .int (nI j39)), (4, .int z61_4), (5, .int (nI d))] [] := by
                intro fu61
                induction fu61 with
                | zero => intro z61_4 d wl61 _ q; omega
                | succ fu61 ih61 =>
                  intro z61_4 d wl61 hWl61 me61 iv61_0 iv61_1 iv61_2
                  obtain ⟨f50, k51, hf52⟩ := iv61_1
                  refine x_iload C dX11_flock_61 5 rfl rfl ?_
                  refine x_iload_n C dX11_flock_63 rfl 2 rfl rfl ?_
                  refine x_icmp_ge C (tgt := 135) dX11_flock_64 (by decide) rfl (fun c53 => ?_) (fun c53 => ?_)
                  · skip
                    have nf54 := nI_le' (a := j25) (b := d) c53 (by omega) (by omega)
                    refine x_iload_n C dX11_flock_135 rfl 3 rfl rfl ?_
                    refine x_if_ne C (tgt := 148) dX11_flock_136 (by decide) rfl (fun c55 => ?_) (fun c55 => ?_)
                    · skip
                      have nf56 : ¬ j39 = 0 := fun q => c55 (congrArg nI q)
                      refine x_iload C dX11_flock_148 4 rfl rfl ?_
                      exact x_zret C hr hlk rfl dX11_flock_150 ⟨hWl61, (flk_1 ⟨hw8, hw22, hw36⟩ (by omega) (by omega) (by omega) (by omega) ((iv61_2 (by omega)).trans (by rw [show d = j25 from by omega])))⟩
                    · skip
                      have nf57 : j39 = 0 := (nI_eq (by omega) (by omega)).mp c55
                      refine x_aload_n C dX11_flock_139 rfl 0 rfl rfl ?_
                      obtain ⟨_, k58, v59, rfl⟩ := hWl61 0 _ rfl
                      refine x_get C (ci := 10) (k := 14) 0 k58 rfl in_X11 (by decide) w_399 rfl dX11_flock_140 rfl ?_
                      refine x_iload_n C dX11_flock_143 rfl 1 rfl rfl ?_
                      refine x_ialk C (v := (f50 j11)) j11 (nI_clamp (by omega)) (nI_pos (by omega)) (by omega) 108 k51 rfl dX11_flock_144 rfl ?_
                      refine x_top (hf52 j11 (by omega) (by omega)) ?_
                      refine x_goto C (tgt := 150) dX11_flock_145 (by decide) ?_
                      exact x_zret C hr hlk rfl dX11_flock_150 ⟨hWl61, ((congrArg (fun q => nI (fh q j11)) (show d = j25 from by omega)).trans (flk_0 ⟨hw8, hw22, hw36⟩ (by omega) (by omega) (by omega)))⟩
                  · skip
                    have nf60 := nI_nle' (a := j25) (b := d) c53 (by omega) (by omega)
                    refine x_iconst C (v := 1) dX11_flock_67 (by decide) rfl ?_
                    refine x_istore C (lv' := [(6, .int 1), (0, .ref (a 0)), (1, .int (nI j11)), (2, .int (nI j25)), (3, .int (nI j39)), (4, .int z61_4), (5, .int (nI d))]) dX11_flock_68 (by decide) rfl rfl ?_
                    have loop70 : ∀ (fu70 : Nat) (z70_4 : Int32) (h : Nat) (wl70 : va_W), WX (okX E a) wl70 → 21 - h < fu70 → 1 ≤ h ∧ h ≤ 21 → (∃ f : Nat → Int32, wl70[108]? = some (iA E (a 108) 21 f) ∧ ∀ j, 1 ≤ j → j ≤ 20 → f j = nI (if j < h then fh (d + 1) j else fh d j)) → (j11 < h → z70_4 = nI (fb d j11)) → X E p l e (xRm 4 0 0) s m ([.ref (a 0), .int (nI j11), .int (nI j25), .int (nI j39)] : List Value).toArray below meth c A 8 0 0 (MQ below (va_Qi (fun r w => WX (okX E a) w ∧ (r = flk (nI j11) (nI j25) (nI j39))) (xB E A) A) ([.ref (a 0), .int (nI j11), .int (nI j25), .int (nI j39)] : List Value).toArray s 0 0 A) wl70 70 [(0, .ref (a 0)), (1, .int (nI j11)), (2, .int (nI j25)), (3, .int (nI j39)), (4, .int z70_4), (5, .int (nI d)), (6, .int (nI h))] [] := by
                      intro fu70
                      induction fu70 with
                      | zero => intro z70_4 h wl70 _ q; omega
                      | succ fu70 ih70 =>
                        intro z70_4 h wl70 hWl70 me70 iv70_0 iv70_1 iv70_2
                        obtain ⟨f61, k62, hf63⟩ := iv70_1
                        refine x_iload C dX11_flock_70 6 rfl rfl ?_
                        refine x_bipush C (v := 20) dX11_flock_72 (by decide) rfl ?_
                        refine x_icmp_gt C (tgt := 129) dX11_flock_74 (by decide) rfl (fun c64 => ?_) (fun c64 => ?_)
                        · skip
                          have nf65 := nI_lt' (a := 20) (b := h) c64 (by omega) (by omega)
                          refine x_iinc C (v := (nI (d + 1))) (lv' := [(5, .int (nI (d + 1))), (0, .ref (a 0)), (1, .int (nI j11)), (2, .int (nI j25)), (3, .int (nI j39)), (4, .int z70_4), (6, .int (nI h))]) dX11_flock_129 5 rfl (nI_add d 1) (by decide) rfl rfl ?_
                          refine x_goto C (tgt := 61) dX11_flock_132 (by decide) ?_
                          refine x_lv (lv1 := [(0, .ref (a 0)), (1, .int (nI j11)), (2, .int (nI j25)), (3, .int (nI j39)), (4, .int z70_4), (5, .int (nI (d + 1)))]) [1, 2, 3, 4, 5, 0] rfl ?_
                          exact ih61 z70_4 (d + 1) wl70 hWl70 (by omega) (by omega) ⟨_, k62, row_21 hf63 (by omega)⟩ (fun _ => iv70_2 (by omega))
                        · skip
                          have nf66 := nI_nlt' (a := 20) (b := h) c64 (by omega) (by omega)
                          refine x_aload_n C dX11_flock_77 rfl 0 rfl rfl ?_
                          refine x_iload C dX11_flock_78 6 rfl rfl ?_
                          obtain ⟨_, k67, v68, rfl⟩ := hWl70 0 _ rfl
                          refine x_vi C (As := [.int (nI h)]) (rest := []) (c_bestHatchX E l a wl70 hWl70 h (by omega) (fh d) (fh_1000 (by omega)) f61 k62 (row_hi hf63 (by omega))) mf_X11_bestHatch w_971 0 k67 rfl rfl rfl (Nat.le_of_ble_eq_true rfl) ⟨(Nat.le_of_ble_eq_true rfl), (Nat.le_of_ble_eq_true rfl)⟩ ⟨(Nat.le_of_ble_eq_true rfl), (Nat.le_of_ble_eq_true rfl)⟩ dX11_flock_80 rfl (fun r70 w71 h69 => ?_)
                          obtain ⟨hW72, x73⟩ := h69
                          refine x_ws hW72 ?_
                          have hb74 := fb_le d h
                          have hm75 := mn_20 (h := h) (by omega)
                          have hm76 := mn_le h
                          refine x_top (show r70 = nI (fb d h) from x73) ?_
                          refine x_istore C (lv' := [(7, .int (nI (fb d h))), (0, .ref (a 0)), (1, .int (nI j11)), (2, .int (nI j25)), (3, .int (nI j39)), (4, .int z70_4), (5, .int (nI d)), (6, .int (nI h))]) dX11_flock_83 (by decide) rfl rfl ?_
                          refine x_iload C dX11_flock_85 7 rfl rfl ?_
                          refine x_iload_n C dX11_flock_87 rfl 2 rfl rfl ?_
                          refine x_icmp_ne C (tgt := 96) dX11_flock_88 (by decide) rfl (fun c77 => ?_) (fun c77 => ?_)
                          · skip
                            have nf78 : ¬ h = j11 := fun q => c77 (congrArg nI q)
                            refine x_iload C dX11_flock_96 5 rfl rfl ?_
                            refine x_istore C (lv' := [(4, .int z70_4), (7, .int (nI (fb d h))), (0, .ref (a 0)), (1, .int (nI j11)), (2, .int (nI j25)), (3, .int (nI j39)), (5, .int (nI d)), (6, .int (nI h))]) dX11_flock_98 (by decide) rfl rfl ?_
                            refine x_aload_n C dX11_flock_100 rfl 2 rfl rfl ?_
                            refine x_get C (ci := 10) (k := 14) 0 k67 rfl in_X11 (by decide) w_399 rfl dX11_flock_101 rfl ?_
                            refine x_iload C dX11_flock_104 7 rfl rfl ?_
                            refine x_iload C dX11_flock_106 7 rfl rfl ?_
                            refine x_iload C dX11_flock_108 1 rfl rfl ?_
                            refine x_isub C (v := (nI (h - (fb d h)))) dX11_flock_110 (pk_sub (a := h) (b := (fb d h)) (by omega)) rfl ?_
                            refine x_aload_n C dX11_flock_111 rfl 2 rfl rfl ?_
                            refine x_get C (ci := 10) (k := 14) 0 k67 rfl in_X11 (by decide) w_399 rfl dX11_flock_112 rfl ?_
                            refine x_iload C dX11_flock_115 7 rfl rfl ?_
                            refine x_iload C dX11_flock_117 1 rfl rfl ?_
                            refine x_iadd C (v := (nI (h + (fb d h)))) dX11_flock_119 (nI_add h (fb d h)) rfl ?_
                            refine x_ialk C (v := (f61 (h + (fb d h)))) (h + (fb d h)) (nI_clamp (by omega)) (nI_pos (by omega)) (by omega) 108 k62 rfl dX11_flock_120 rfl ?_
                            refine x_top (row_hi hf63 (by omega) (h + fb d h) (by omega) (by omega)) ?_
                            refine x_iadd C (v := (nI ((h - (fb d h)) + (fh d (h + fb d h))))) dX11_flock_121 (nI_add (h - (fb d h)) (fh d (h + fb d h))) rfl ?_
                            obtain ⟨w79, hw80⟩ : ∃ w : va_W, w = List.set wl70 108 (iA E (a 108) 21 (upd f61 h (nI ((h - (fb d h)) + (fh d (h + fb d h)))))) := ⟨_, rfl⟩
                            refine x_iask C h (nI_clamp (by omega)) (nI_pos (by omega)) (by omega) 108 k62 hw80.symm dX11_flock_122 rfl ?_
                            have hW81 : WX (okX E a) w79 := by rw [hw80]; exact hWl70.set (k := 108) rfl ⟨_, rfl⟩
                            have k82 : w79[108]? = some (iA E (a 108) 21 (upd f61 h (nI ((h - (fb d h)) + (fh d (h + fb d h)))))) := by rw [hw80]; exact set_eq k62
                            have k83 : w79[0]? = some (ob (a 0) 10 [.ref (a 1), .ref (a 3), .ref (a 5), .ref (a 27), .ref (a 49), .int v68, .ref (a 71), .ref (a 79), .ref (a 87), .ref (a 92), .ref (a 103), .ref (a 105), .ref (a 106), .ref (a 107), .ref (a 108), .ref (a 109), .ref (a 110), .ref (a 111), .ref (a 112)]) := by rw [hw80]; exact set_ne k67 (by decide)
                            refine x_iinc C (v := (nI (h + 1))) (lv' := [(6, .int (nI (h + 1))), (4, .int z70_4), (7, .int (nI (fb d h))), (0, .ref (a 0)), (1, .int (nI j11)), (2, .int (nI j25)), (3, .int (nI j39)), (5, .int (nI d))]) dX11_flock_123 7 rfl (nI_add h 1) (by decide) rfl rfl ?_
                            refine x_goto C (tgt := 70) dX11_flock_126 (by decide) ?_
                            refine x_lv (lv1 := [(0, .ref (a 0)), (1, .int (nI j11)), (2, .int (nI j25)), (3, .int (nI j39)), (4, .int z70_4), (5, .int (nI d)), (6, .int (nI (h + 1)))]) [3, 4, 5, 6, 1, 7, 0] rfl ?_
                            exact ih70 z70_4 (h + 1) w79 hW81 (by omega) (by omega) ⟨_, k82, fl_step hf63 (by omega) (by omega) (by omega)⟩ (fun q9 => iv70_2 (by omega))
                          · skip
                            have nf84 : h = j11 := (nI_eq (by omega) (by omega)).mp c77
                            refine x_iload C dX11_flock_91 0 rfl rfl ?_
                            refine x_goto C (tgt := 98) dX11_flock_93 (by decide) ?_
                            refine x_istore C (lv' := [(4, .int (nI (fb d h))), (7, .int (nI (fb d h))), (0, .ref (a 0)), (1, .int (nI j11)), (2, .int (nI j25)), (3, .int (nI j39)), (5, .int (nI d)), (6, .int (nI h))]) dX11_flock_98 (by decide) rfl rfl ?_
                            refine x_aload_n C dX11_flock_100 rfl 2 rfl rfl ?_
                            refine x_get C (ci := 10) (k := 14) 0 k67 rfl in_X11 (by decide) w_399 rfl dX11_flock_101 rfl ?_
                            refine x_iload C dX11_flock_104 7 rfl rfl ?_
                            refine x_iload C dX11_flock_106 7 rfl rfl ?_
                            refine x_iload C dX11_flock_108 1 rfl rfl ?_
                            refine x_isub C (v := (nI (h - (fb d h)))) dX11_flock_110 (pk_sub (a := h) (b := (fb d h)) (by omega)) rfl ?_
                            refine x_aload_n C dX11_flock_111 rfl 2 rfl rfl ?_
                            refine x_get C (ci := 10) (k := 14) 0 k67 rfl in_X11 (by decide) w_399 rfl dX11_flock_112 rfl ?_
                            refine x_iload C dX11_flock_115 7 rfl rfl ?_
                            refine x_iload C dX11_flock_117 1 rfl rfl ?_
                            refine x_iadd C (v := (nI (h + (fb d h)))) dX11_flock_119 (nI_add h (fb d h)) rfl ?_
                            refine x_ialk C (v := (f61 (h + (fb d h)))) (h + (fb d h)) (nI_clamp (by omega)) (nI_pos (by omega)) (by omega) 108 k62 rfl dX11_flock_120 rfl ?_
                            refine x_top (row_hi hf63 (by omega) (h + fb d h) (by omega) (by omega)) ?_
                            refine x_iadd C (v := (nI ((h - (fb d h)) + (fh d (h + fb d h))))) dX11_flock_121 (nI_add (h - (fb d h)) (fh d (h + fb d h))) rfl ?_
                            obtain ⟨w85, hw86⟩ : ∃ w : va_W, w = List.set wl70 108 (iA E (a 108) 21 (upd f61 h (nI ((h - (fb d h)) + (fh d (h + fb d h)))))) := ⟨_, rfl⟩
                            refine x_iask C h (nI_clamp (by omega)) (nI_pos (by omega)) (by omega) 108 k62 hw86.symm dX11_flock_122 rfl ?_
                            have hW87 : WX (okX E a) w85 := by rw [hw86]; exact hWl70.set (k := 108) rfl ⟨_, rfl⟩
                            have k88 : w85[108]? = some (iA E (a 108) 21 (upd f61 h (nI ((h - (fb d h)) + (fh d (h + fb d h)))))) := by rw [hw86]; exact set_eq k62
                            have k89 : w85[0]? = some (ob (a 0) 10 [.ref (a 1), .ref (a 3), .ref (a 5), .ref (a 27), .ref (a 49), .int v68, .ref (a 71), .ref (a 79), .ref (a 87), .ref (a 92), .ref (a 103), .ref (a 105), .ref (a 106), .ref (a 107), .ref (a 108), .ref (a 109), .ref (a 110), .ref (a 111), .ref (a 112)]) := by rw [hw86]; exact set_ne k67 (by decide)
                            refine x_iinc C (v := (nI (h + 1))) (lv' := [(6, .int (nI (h + 1))), (4, .int (nI (fb d h))), (7, .int (nI (fb d h))), (0, .ref (a 0)), (1, .int (nI j11)), (2, .int (nI j25)), (3, .int (nI j39)), (5, .int (nI d))]) dX11_flock_123 7 rfl (nI_add h 1) (by decide) rfl rfl ?_
                            refine x_goto C (tgt := 70) dX11_flock_126 (by decide) ?_
                            refine x_lv (lv1 := [(0, .ref (a 0)), (1, .int (nI j11)), (2, .int (nI j25)), (3, .int (nI j39)), (4, .int (nI (fb d h))), (5, .int (nI d)), (6, .int (nI (h + 1)))]) [3, 4, 5, 6, 1, 7, 0] rfl ?_
                            exact ih70 ((nI (fb d h))) (h + 1) w85 hW87 (by omega) (by omega) ⟨_, k88, fl_step hf63 (by omega) (by omega) (by omega)⟩ (fun q9 => by rw [show h = j11 from by omega])
                    refine x_lv (lv1 := [(0, .ref (a 0)), (1, .int (nI j11)), (2, .int (nI j25)), (3, .int (nI j39)), (4, .int z61_4), (5, .int (nI d)), (6, .int 1)]) [1, 2, 3, 4, 5, 6, 0] rfl ?_
                    exact loop70 _ z61_4 1 wl61 hWl61 (Nat.lt_succ_self _) (by omega) ⟨_, k51, row_0 hf52⟩ (fun q => absurd q (by omega))
              refine x_lv (lv1 := [(0, .ref (a 0)), (1, .int (nI j11)), (2, .int (nI j25)), (3, .int (nI j39)), (4, .int 0), (5, .int 0)]) [2, 3, 4, 5, 1, 0] rfl ?_
              exact loop61 _ (0 : Int32) 0 wl34 hWl34 (Nat.lt_succ_self _) (by omega) ⟨_, k46, fz_0 (fun j hj => hf47 j (by omega))⟩ (fun q => absurd q (by omega))
            · skip
              have nf90 := nI_nlt' (a := 20) (b := h) c48 (by omega) (by omega)
              refine x_aload_n C dX11_flock_41 rfl 0 rfl rfl ?_
              obtain ⟨_, k91, v92, rfl⟩ := hWl34 0 _ rfl
              refine x_get C (ci := 10) (k := 14) 0 k91 rfl in_X11 (by decide) w_399 rfl dX11_flock_42 rfl ?_
              refine x_iload C dX11_flock_45 4 rfl rfl ?_
              refine x_iconst C (v := 0) dX11_flock_47 (by decide) rfl ?_
              obtain ⟨w93, hw94⟩ : ∃ w : va_W, w = List.set wl34 108 (iA E (a 108) 21 (upd f45 h (0 : Int32))) := ⟨_, rfl⟩
              refine x_iask C h (nI_clamp (by omega)) (nI_pos (by omega)) (by omega) 108 k46 hw94.symm dX11_flock_48 rfl ?_
              have hW95 : WX (okX E a) w93 := by rw [hw94]; exact hWl34.set (k := 108) rfl ⟨_, rfl⟩
              have k96 : w93[108]? = some (iA E (a 108) 21 (upd f45 h (0 : Int32))) := by rw [hw94]; exact set_eq k46
              have k97 : w93[0]? = some (ob (a 0) 10 [.ref (a 1), .ref (a 3), .ref (a 5), .ref (a 27), .ref (a 49), .int v92, .ref (a 71), .ref (a 79), .ref (a 87), .ref (a 92), .ref (a 103), .ref (a 105), .ref (a 106), .ref (a 107), .ref (a 108), .ref (a 109), .ref (a 110), .ref (a 111), .ref (a 112)]) := by rw [hw94]; exact set_ne k91 (by decide)
              refine x_iinc C (v := (nI (h + 1))) (lv' := [(4, .int (nI (h + 1))), (0, .ref (a 0)), (1, .int (nI j11)), (2, .int (nI j25)), (3, .int (nI j39))]) dX11_flock_49 4 rfl (nI_add h 1) (by decide) rfl rfl ?_
              refine x_goto C (tgt := 34) dX11_flock_52 (by decide) ?_
              refine x_lv (lv1 := [(0, .ref (a 0)), (1, .int (nI j11)), (2, .int (nI j25)), (3, .int (nI j39)), (4, .int (nI (h + 1)))]) [1, 2, 3, 4, 0] rfl ?_
              exact ih34 (h + 1) w93 hW95 (by omega) (by omega) ⟨_, k96, zf21 hf47⟩
        refine x_lv (lv1 := [(0, .ref (a 0)), (1, .int (nI j11)), (2, .int (nI j25)), (3, .int (nI j39)), (4, .int 0)]) [1, 2, 3, 4, 0] rfl ?_
        exact loop34 _ 0 ws hW (Nat.lt_succ_self _) (by omega) ⟨_, k43, fun j hj => absurd hj (by omega)⟩
      · refine x_top e37 ?_
        refine x_if_ne C (tgt := 31) dX11_flock_26 (by decide) rfl (fun h => absurd h (by decide)) (fun _ => ?_)
        refine x_iconst C (v := (-1)) dX11_flock_29 (by decide) rfl ?_
        exact x_zret C hr hlk rfl dX11_flock_30 ⟨hW, (flk_no (fun q => hw38 q.2.2)).symm⟩
    · refine x_top e23 ?_
      refine x_if_eq C (tgt := 29) dX11_flock_17 (by decide) rfl (fun _ => ?_) (fun h => absurd h (by decide))
      refine x_iconst C (v := (-1)) dX11_flock_29 (by decide) rfl ?_
      exact x_zret C hr hlk rfl dX11_flock_30 ⟨hW, (flk_no (fun q => hw24 q.2.1)).symm⟩
  · refine x_top e9 ?_
    refine x_if_eq C (tgt := 29) dX11_flock_7 (by decide) rfl (fun _ => ?_) (fun h => absurd h (by decide))
    refine x_iconst C (v := (-1)) dX11_flock_29 (by decide) rfl ?_
    exact x_zret C hr hlk rfl dX11_flock_30 ⟨hW, (flk_no (fun q => hw10 q.1)).symm⟩
